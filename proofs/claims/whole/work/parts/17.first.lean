/-! first contracts -/
section P17
variable {X : pm_X} {d : Nat} {P : pm_O → Prop} {S : List pm_S} {I : Nat → Nat → Int32} {J : Nat → Nat → Int64}
theorem q10 : ((1 : Int32) = 0) = False := by decide
theorem q00 : ((0 : Int32) = 0) = True := by decide
theorem q01 : ((0 : Int32) = 1) = False := by decide
theorem q11 : ((1 : Int32) = 1) = True := by decide
/-- a contract, as an equation -/
theorem K_of {k mj : Nat} {args : List Value} {h : pm_H} {o : pm_O} (hV : ∀ d', pm_V X (d' + k) mj 0 (pm_ent (pm_ml mj) args) [] h (fun q => q = o)) : pm_cl X (d + k + 1) mj args h P = P o := propext (pm_cl_of (k := k) (by omega) hV P)
theorem K_if {k mj : Nat} {args : List Value} {h : pm_H} {b : Prop} [Decidable b] {o1 o2 : pm_O} (h1 : b → ∀ d', pm_V X (d' + k) mj 0 (pm_ent (pm_ml mj) args) [] h (fun q => q = o1)) (h2 : ¬ b → ∀ d', pm_V X (d' + k) mj 0 (pm_ent (pm_ml mj) args) [] h (fun q => q = o2)) : pm_cl X (d + k + 1) mj args h P = if b then P o1 else P o2 := by
  by_cases q : b
  · rw [if_pos q, K_of (h1 q)]
  · rw [if_neg q, K_of (h2 q)]
theorem K_B_isWithin {a b c : Int32} : pm_cl X (d + 1) 36 [.int a, .int b, .int c] (S, I, J) P = if b ≤ a ∧ a ≤ c then P (some (.int 1), (S, I, J)) else P (some (.int 0), (S, I, J)) := by
  refine K_if (k := 0) (fun hq d' => ?_) (fun hq d' => ?_)
  · show pm_V X d' 36 0 [some (.int a), some (.int b), some (.int c)] [] (S, I, J) _
    simp only [e_B_isWithin_0, e_B_isWithin_1, e_B_isWithin_2, e_B_isWithin_5, e_B_isWithin_6, e_B_isWithin_7, e_B_isWithin_10, e_B_isWithin_11, e_B_isWithin_14, e_B_isWithin_15]
    rw [if_neg (Int32.not_lt.mpr hq.1), if_neg (Int32.not_lt.mpr hq.2)]
    simp
  · show pm_V X d' 36 0 [some (.int a), some (.int b), some (.int c)] [] (S, I, J) _
    simp only [e_B_isWithin_0, e_B_isWithin_1, e_B_isWithin_2, e_B_isWithin_5, e_B_isWithin_6, e_B_isWithin_7, e_B_isWithin_10, e_B_isWithin_11, e_B_isWithin_14, e_B_isWithin_15]
    split
    · simp
    · split
      · simp
      · exact absurd ⟨Int32.not_lt.mp ‹_›, Int32.not_lt.mp ‹_›⟩ hq
theorem K_B_isCell {a : Int32} : pm_cl X (d + 1) 37 [.int a] (S, I, J) P = if 0 ≤ a ∧ a ≤ 15 then P (some (.int 1), (S, I, J)) else P (some (.int 0), (S, I, J)) := by
  have h16 : ∀ a : Int32, 16 ≤ a ↔ ¬ a ≤ 15 := fun a => by
    rw [Int32.le_iff_toInt_le, Int32.le_iff_toInt_le]
    have h1 : (16 : Int32).toInt = 16 := by decide
    have h2 : (15 : Int32).toInt = 15 := by decide
    omega
  refine K_if (k := 0) (fun hq d' => ?_) (fun hq d' => ?_)
  · show pm_V X d' 37 0 [some (.int a)] [] (S, I, J) _
    simp only [e_B_isCell_0, e_B_isCell_1, e_B_isCell_4, e_B_isCell_5, e_B_isCell_7, e_B_isCell_10, e_B_isCell_11, e_B_isCell_14, e_B_isCell_15]
    rw [if_neg (Int32.not_lt.mpr hq.1), if_neg (by rw [h16]; exact fun z => z hq.2)]
    simp
  · show pm_V X d' 37 0 [some (.int a)] [] (S, I, J) _
    simp only [e_B_isCell_0, e_B_isCell_1, e_B_isCell_4, e_B_isCell_5, e_B_isCell_7, e_B_isCell_10, e_B_isCell_11, e_B_isCell_14, e_B_isCell_15]
    split
    · simp
    · split
      · simp
      · rename_i h1 h2
        rw [h16] at h2
        exact absurd ⟨Int32.not_lt.mp h1, Classical.not_not.mp h2⟩ hq
end P17
