/-! a test of a WINTER, class's side -/
section P23
variable {X : pm_X} {d : Nat} {P Q : pm_O → Prop} {S : List pm_S} {I : Nat → Nat → Int32} {J : Nat → Nat → Int64}
theorem q300 : ((300 : Int32) = 0) = False := by decide
theorem q3z : ((3 : Int32) = 0) = False := by decide
/-- what a test looks at, by its letter -/
def tvI (letter hour warm : Int32) : Int32 := if letter = 1 then dayI hour else if letter = 0 then hodI hour else warm
/-- is a test so -/
def isSoI (t hour warm : Int32) : Bool := if t / 100 - t / 100 / 3 * 3 = 0 then decide (tvI (t / 300) hour warm < t - t / 100 * 100) else if t / 100 - t / 100 / 3 * 3 = 1 then decide (tvI (t / 300) hour warm = t - t / 100 * 100) else decide (t - t / 100 * 100 < tvI (t / 300) hour warm)
theorem K_W_isSo {t hour warm : Int32} : pm_cl X (d + 1) 81 [.int t, .int hour, .int warm] (S, I, J) P = if isSoI t hour warm = true then P (some (.int 1), (S, I, J)) else P (some (.int 0), (S, I, J)) := by
  have tail : ∀ (d' : Nat) (Q : pm_O → Prop) (l r n v : Int32), pm_V X d' 81 47 [some (.int t), some (.int hour), some (.int warm), some (.int l), some (.int r), some (.int n), some (.int v)] [] (S, I, J) Q = if (if r = 0 then v < n else if r = 1 then v = n else n < v) then Q (some (.int 1), (S, I, J)) else Q (some (.int 0), (S, I, J)) := by
    intro d' Q l r n v
    simp only [e_W_isSo_0, e_W_isSo_1, e_W_isSo_4, e_W_isSo_5, e_W_isSo_6, e_W_isSo_7, e_W_isSo_9, e_W_isSo_10, e_W_isSo_11, e_W_isSo_12, e_W_isSo_14, e_W_isSo_15, e_W_isSo_17, e_W_isSo_18, e_W_isSo_20, e_W_isSo_21, e_W_isSo_23, e_W_isSo_24, e_W_isSo_27, e_W_isSo_28, e_W_isSo_30, e_W_isSo_31, e_W_isSo_33, e_W_isSo_34, e_W_isSo_35, e_W_isSo_38, e_W_isSo_39, e_W_isSo_41, e_W_isSo_42, e_W_isSo_44, e_W_isSo_45, e_W_isSo_47, e_W_isSo_49, e_W_isSo_52, e_W_isSo_54, e_W_isSo_56, e_W_isSo_59, e_W_isSo_60, e_W_isSo_63, e_W_isSo_64, e_W_isSo_65, e_W_isSo_67, e_W_isSo_68, e_W_isSo_71, e_W_isSo_73, e_W_isSo_75, e_W_isSo_78, e_W_isSo_79, e_W_isSo_82, e_W_isSo_83, e_W_isSo_86, e_W_isSo_88, e_W_isSo_90, e_W_isSo_93, e_W_isSo_94, e_W_isSo_97, e_W_isSo_98]
    by_cases q0 : r = 0
    · by_cases q : n ≤ v
      · have q' : ¬ v < n := Int32.not_lt.mpr q
        simp [q0, q, q']
      · have q' : v < n := Int32.not_le.mp q
        simp [q0, q, q']
    · by_cases q1 : r = 1
      · by_cases q : v = n
        · simp [q1, q]
        · simp [q1, q]
      · by_cases q : v ≤ n
        · have q' : ¬ n < v := Int32.not_lt.mpr q
          simp [q0, q1, q, q']
        · have q' : n < v := Int32.not_le.mp q
          simp [q0, q1, q, q']
  have all : ∀ (d' : Nat) (Q : pm_O → Prop), pm_V X d' 81 0 [some (.int t), some (.int hour), some (.int warm), none, none, none, none] [] (S, I, J) Q = if isSoI t hour warm = true then Q (some (.int 1), (S, I, J)) else Q (some (.int 0), (S, I, J)) := by
    intro d' Q
    simp only [e_W_isSo_0, e_W_isSo_1, e_W_isSo_4, e_W_isSo_5, e_W_isSo_6, e_W_isSo_7, e_W_isSo_9, e_W_isSo_10, e_W_isSo_11, e_W_isSo_12, e_W_isSo_14, e_W_isSo_15, e_W_isSo_17, e_W_isSo_18, e_W_isSo_20, e_W_isSo_21, e_W_isSo_23, e_W_isSo_24, e_W_isSo_27, e_W_isSo_28, e_W_isSo_30, e_W_isSo_31, e_W_isSo_33, e_W_isSo_34, e_W_isSo_35, e_W_isSo_38, e_W_isSo_39, e_W_isSo_41, e_W_isSo_42, e_W_isSo_44, e_W_isSo_45, e_W_isSo_49, e_W_isSo_52, e_W_isSo_54, e_W_isSo_56, e_W_isSo_59, e_W_isSo_60, e_W_isSo_63, e_W_isSo_64, e_W_isSo_65, e_W_isSo_67, e_W_isSo_68, e_W_isSo_71, e_W_isSo_73, e_W_isSo_75, e_W_isSo_78, e_W_isSo_79, e_W_isSo_82, e_W_isSo_83, e_W_isSo_86, e_W_isSo_88, e_W_isSo_90, e_W_isSo_93, e_W_isSo_94, e_W_isSo_97, e_W_isSo_98, tail, q300, qh0, q3z, q24, not_false_eq_true, true_and, hod_d, day_d]
    have e : (isSoI t hour warm = true) = (if t / 100 - t / 100 / 3 * 3 = 0 then tvI (t / 300) hour warm < t - t / 100 * 100 else if t / 100 - t / 100 / 3 * 3 = 1 then tvI (t / 300) hour warm = t - t / 100 * 100 else t - t / 100 * 100 < tvI (t / 300) hour warm) := by
      unfold isSoI
      split
      · simp
      · split
        · simp
        · simp
    simp only [e]
    unfold tvI
    by_cases l0 : t / 300 = 0
    · simp [l0]
    · by_cases l1 : t / 300 = 1
      · simp [l1]
      · simp [l0, l1]
  refine K_if (k := 0) (fun hq d' => ?_) (fun hq d' => ?_)
  · show pm_V X d' 81 0 [some (.int t), some (.int hour), some (.int warm), none, none, none, none] [] (S, I, J) _
    rw [all, if_pos hq]
  · show pm_V X d' 81 0 [some (.int t), some (.int hour), some (.int warm), none, none, none, none] [] (S, I, J) _
    rw [all, if_neg hq]
end P23
