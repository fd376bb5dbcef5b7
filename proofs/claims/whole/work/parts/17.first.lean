/-! first contracts -/
section P17
variable {X : pm_X} {d : Nat} {P Q : pm_O → Prop} {S : List pm_S} {I : Nat → Nat → Int32} {J : Nat → Nat → Int64}
theorem q10 : ((1 : Int32) = 0) = False := by decide
theorem q00 : ((0 : Int32) = 0) = True := by decide
theorem q01 : ((0 : Int32) = 1) = False := by decide
theorem q11 : ((1 : Int32) = 1) = True := by decide
theorem qz1 : ((1 : Int32) = 0 ∨ (1 : Int32) = 1) = True := by decide
theorem qz0 : ((0 : Int32) = 0 ∨ (0 : Int32) = 1) = True := by decide
/-- a contract, as an equation -/
theorem K_of {k mj : Nat} {args : List Value} {h : pm_H} {o : pm_O} (hV : ∀ d', pm_V X (d' + k) mj 0 (pm_ent (pm_ml mj) args) [] h (fun q => q = o)) : pm_cl X (d + k + 1) mj args h P = P o := propext (pm_cl_of (k := k) (by omega) hV P)
theorem K_if {k mj : Nat} {args : List Value} {h : pm_H} {b : Prop} [Decidable b] {o1 o2 : pm_O} (h1 : b → ∀ d', pm_V X (d' + k) mj 0 (pm_ent (pm_ml mj) args) [] h (fun q => q = o1)) (h2 : ¬ b → ∀ d', pm_V X (d' + k) mj 0 (pm_ent (pm_ml mj) args) [] h (fun q => q = o2)) : pm_cl X (d + k + 1) mj args h P = if b then P o1 else P o2 := by
  by_cases q : b
  · rw [if_pos q, K_of (h1 q)]
  · rw [if_neg q, K_of (h2 q)]
/-- numbers -/
theorem bad_nI {k n : Nat} (h : k < n) (hn : n < 2 ^ 31) : pm_bad (nI k) n = false := by
  unfold pm_bad
  exact decide_eq_false (vp_in_nI h hn)
theorem bad_iff {i : Int32} {n : Nat} : pm_bad i n = false ↔ 0 ≤ i.toInt ∧ i.toInt < n := by
  rw [← vp_in_iff]
  unfold pm_bad vp_in
  rw [decide_eq_false_iff_not]
theorem ia_of {a n : Nat} {r : List (Option Nat)} (h : S[a]? = some (1, n, r)) (i : Int32) : pm_ia X S I a i = if pm_bad i n = true then none else some (I a i.toNatClampNeg) := by
  unfold pm_ia
  rw [h]
  rfl
theorem ow_of {a n t : Nat} {r : List (Option Nat)} (h : S[a]? = some (t, n, r)) (i : Int32) : (pm_okw S t a i = true) = (pm_bad i n = false) := by
  unfold pm_okw
  rw [h]
  simp
theorem nI_le_l {k n : Nat} (hk : k < 2 ^ 31) (hn : n < 2 ^ 31) : (nI n ≤ nI k) = (n ≤ k) := propext (nI_leI hn hk)
/-- a row of numbers -/
def sumR (f : Nat → Int32) : Nat → Nat → Int32
  | _, 0 => 0
  | k, n + 1 => f k + sumR f (k + 1) n
theorem sumR_congr {f g : Nat → Int32} : ∀ (n k : Nat), (∀ i, k ≤ i → i < k + n → f i = g i) → sumR f k n = sumR g k n := by
  intro n
  induction n with
  | zero => intro k _; rfl
  | succ n ih =>
    intro k h
    rw [sumR, sumR, h k (Nat.le_refl _) (by omega), ih (k + 1) (fun i h1 h2 => h i (by omega) (by omega))]
theorem K_B_isWithin {a b c : Int32} : pm_cl X (d + 1) 36 [.int a, .int b, .int c] (S, I, J) P = if b ≤ a ∧ a ≤ c then P (some (.int 1), (S, I, J)) else P (some (.int 0), (S, I, J)) := by
  refine K_if (k := 0) (fun hq d' => ?_) (fun hq d' => ?_)
  · show pm_V X d' 36 0 [some (.int a), some (.int b), some (.int c)] [] (S, I, J) _
    simp only [e_B_isWithin_0, e_B_isWithin_1, e_B_isWithin_2, e_B_isWithin_5, e_B_isWithin_6, e_B_isWithin_7, e_B_isWithin_10, e_B_isWithin_11, e_B_isWithin_14, e_B_isWithin_15]
    rw [if_neg (Int32.not_lt.mpr hq.1), if_neg (Int32.not_lt.mpr hq.2)]
    simp
  · show pm_V X d' 36 0 [some (.int a), some (.int b), some (.int c)] [] (S, I, J) _
    simp only [e_B_isWithin_0, e_B_isWithin_1, e_B_isWithin_2, e_B_isWithin_5, e_B_isWithin_6, e_B_isWithin_7, e_B_isWithin_10, e_B_isWithin_11, e_B_isWithin_14, e_B_isWithin_15]
    split
    · simp
    · split
      · simp
      · exact absurd ⟨Int32.not_lt.mp ‹_›, Int32.not_lt.mp ‹_›⟩ hq
theorem le_pred {n : Nat} (hn : n + 1 < 2 ^ 31) (a : Int32) : nI (n + 1) ≤ a ↔ ¬ a ≤ nI n := by
  rw [Int32.le_iff_toInt_le, Int32.le_iff_toInt_le, nI_toInt hn, nI_toInt (by omega)]
  omega
theorem K_B_isCell {a : Int32} : pm_cl X (d + 1) 37 [.int a] (S, I, J) P = if 0 ≤ a ∧ a ≤ 15 then P (some (.int 1), (S, I, J)) else P (some (.int 0), (S, I, J)) := by
  have h16 : 16 ≤ a ↔ ¬ a ≤ 15 := le_pred (n := 15) (by decide) a
  refine K_if (k := 0) (fun hq d' => ?_) (fun hq d' => ?_)
  · show pm_V X d' 37 0 [some (.int a)] [] (S, I, J) _
    simp only [e_B_isCell_0, e_B_isCell_1, e_B_isCell_4, e_B_isCell_5, e_B_isCell_7, e_B_isCell_10, e_B_isCell_11, e_B_isCell_14, e_B_isCell_15]
    rw [if_neg (Int32.not_lt.mpr hq.1), if_neg (by rw [h16]; exact fun z => z hq.2)]
    simp
  · show pm_V X d' 37 0 [some (.int a)] [] (S, I, J) _
    simp only [e_B_isCell_0, e_B_isCell_1, e_B_isCell_4, e_B_isCell_5, e_B_isCell_7, e_B_isCell_10, e_B_isCell_11, e_B_isCell_14, e_B_isCell_15]
    split
    · simp
    · split
      · simp
      · rename_i h1 h2
        rw [h16] at h2
        exact absurd ⟨Int32.not_lt.mp h1, Classical.not_not.mp h2⟩ hq
/-- the cells near some -/
def nearE (x : Int32) : Int32 := ((x &&& -34953) <<< (1 &&& 31) ||| (((x &&& -4370).toUInt32 >>> (Int32.toUInt32 1 &&& Int32.toUInt32 31)).toInt32) ||| (x <<< (4 &&& 31) ||| ((x.toUInt32 >>> (Int32.toUInt32 4 &&& Int32.toUInt32 31)).toInt32))) &&& 65535
theorem K_B_nearOf {a : Int32} : pm_cl X (d + 1) 42 [.int a] (S, I, J) P = P (some (.int (nearE a)), (S, I, J)) := by
  refine K_of (k := 0) (fun d' => ?_)
  show pm_V X d' 42 0 [some (.int a), none, none] [] (S, I, J) _
  simp only [e_B_nearOf_0, e_B_nearOf_1, e_B_nearOf_4, e_B_nearOf_5, e_B_nearOf_6, e_B_nearOf_7, e_B_nearOf_8, e_B_nearOf_11, e_B_nearOf_12, e_B_nearOf_13, e_B_nearOf_14, e_B_nearOf_15, e_B_nearOf_16, e_B_nearOf_17, e_B_nearOf_18, e_B_nearOf_19, e_B_nearOf_20, e_B_nearOf_21, e_B_nearOf_22, e_B_nearOf_23, e_B_nearOf_24, e_B_nearOf_25, e_B_nearOf_26, e_B_nearOf_27, e_B_nearOf_30, e_B_nearOf_31]
  rfl
theorem L_B_loadOf {a : Nat} {c near : Int32} (ha : S[a]? = some (1, 16, [])) : ∀ (n k : Nat) (load : Int32), k + n = 16 → pm_V X d 43 16 [some (.ref a), some (.int c), some (.int near), some (.int load), some (.int (nI k))] [] (S, I, J) Q = Q (some (.int (load + sumR (fun o => if near >>> (nI o &&& 31) &&& 1 = 1 then I a o else 0) k n)), (S, I, J)) := by
  intro n
  induction n with
  | zero =>
    intro k load hk
    obtain rfl : k = 16 := by omega
    have h1 : ((16 : Int32) ≤ nI 16) = True := by decide
    rw [e_B_loadOf_16]
    simp only [e_B_loadOf_0, e_B_loadOf_1, e_B_loadOf_2, e_B_loadOf_3, e_B_loadOf_6, e_B_loadOf_7, e_B_loadOf_8, e_B_loadOf_9, e_B_loadOf_10, e_B_loadOf_11, e_B_loadOf_12, e_B_loadOf_13, e_B_loadOf_14, e_B_loadOf_18, e_B_loadOf_20, e_B_loadOf_23, e_B_loadOf_24, e_B_loadOf_26, e_B_loadOf_27, e_B_loadOf_28, e_B_loadOf_29, e_B_loadOf_30, e_B_loadOf_33, e_B_loadOf_34, e_B_loadOf_35, e_B_loadOf_37, e_B_loadOf_38, e_B_loadOf_39, e_B_loadOf_40, e_B_loadOf_43, e_B_loadOf_46, e_B_loadOf_47, h1, if_true, sumR, Int32.add_zero]
  | succ n ih =>
    intro k load hk
    have h1 : ((16 : Int32) ≤ nI k) = False := by
      rw [show (16 : Int32) = nI 16 from rfl, nI_le_l (by omega) (by omega)]
      exact eq_false (by omega)
    have h2 := bad_nI (k := k) (n := 16) (by omega) (by decide)
    have h3 := nI_clamp (n := k) (by omega)
    rw [e_B_loadOf_16]
    simp only [e_B_loadOf_0, e_B_loadOf_1, e_B_loadOf_2, e_B_loadOf_3, e_B_loadOf_6, e_B_loadOf_7, e_B_loadOf_8, e_B_loadOf_9, e_B_loadOf_10, e_B_loadOf_11, e_B_loadOf_12, e_B_loadOf_13, e_B_loadOf_14, e_B_loadOf_18, e_B_loadOf_20, e_B_loadOf_23, e_B_loadOf_24, e_B_loadOf_26, e_B_loadOf_27, e_B_loadOf_28, e_B_loadOf_29, e_B_loadOf_30, e_B_loadOf_33, e_B_loadOf_34, e_B_loadOf_35, e_B_loadOf_37, e_B_loadOf_38, e_B_loadOf_39, e_B_loadOf_40, e_B_loadOf_43, e_B_loadOf_46, e_B_loadOf_47, h1, if_false, ia_of ha, h2, h3, pm_opt_if, true_and, nI_1]
    rw [ih (k + 1) _ (by omega), ih (k + 1) _ (by omega), sumR]
    by_cases q : near >>> (nI k &&& 31) &&& 1 = 1
    · simp [q, Int32.add_assoc]
    · simp [q]
end P17
