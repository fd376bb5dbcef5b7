/-! an hour over all cells -/
def upC (I : Nat → Nat → Int32) (a b c : Nat) (f : Nat → Int32 × Int32 × Int32) (n : Nat) : Nat → Nat → Int32 := fun q k => if k < n ∧ q = a then (f k).1 else if k < n ∧ q = b then (f k).2.1 else if k < n ∧ q = c then (f k).2.2 else I q k
section P21
variable {X : pm_X} {d : Nat} {P Q : pm_O → Prop} {g : List pm_S} {I : Nat → Nat → Int32} {J : Nat → Nat → Int64} {o a b c j : Nat} {f : Nat → Int32 × Int32 × Int32}
theorem upC_0 : upC I a b c f 0 = I := by
  funext q k
  simp [upC]
theorem upC_ge {n q k : Nat} (h : n ≤ k) : upC I a b c f n q k = I q k := by
  have : ¬ k < n := by omega
  simp [upC, this]
theorem upC_ne {n q k : Nat} (h1 : q ≠ a) (h2 : q ≠ b) (h3 : q ≠ c) : upC I a b c f n q k = I q k := by simp [upC, h1, h2, h3]
theorem upC_s {n : Nat} (hab : a ≠ b) (hac : a ≠ c) (hbc : b ≠ c) : pm_t (upC I a b c f n) a b c n (f n) = upC I a b c f (n + 1) := by
  funext q k
  unfold pm_t pm_3 upC
  by_cases hk : k = n
  · subst hk
    simp only [Nat.lt_irrefl, false_and, if_false, Nat.lt_succ_self, true_and, and_true]
  · have e1 : (k < n + 1) = (k < n) := propext (by omega)
    simp only [hk, and_false, if_false, e1]
/-- what an hour makes of a cell -/
def hourF (I : Nat → Nat → Int32) (a b c : Nat) (hour frost falls : Int32) : Nat → Int32 × Int32 × Int32 := fun k => passT (I 7 k) (I 8 k) (coldI (I 7 k) (I 8 k) hour frost) falls (I a k, I b k, I c k)
theorem L_B_passHour {w : Nat} {hour warm heat frost falls : Int32} (h : iceAt (pm_S0 ++ g) o a b c) (h7 : 7 ≠ a ∧ 7 ≠ b ∧ 7 ≠ c) (h8 : 8 ≠ a ∧ 8 ≠ b ∧ 8 ≠ c) : ∀ (n k : Nat), k + n = 16 → pm_V X (d + 7) 53 24 [some (.ref 0), some (.ref o), some (.ref w), some (.int hour), some (.int warm), some (.int heat), some (.int frost), some (.int falls), some (.int (nI k))] [] (pm_S0 ++ g, upC I a b c (hourF I a b c hour frost falls) k, J) Q = Q (none, (pm_S0 ++ g, upC I a b c (hourF I a b c hour frost falls) 16, J)) := by
  have H := h
  obtain ⟨ho, r0, r1, r2, sa, sb, sc, hab, hac, hbc⟩ := h
  intro n
  induction n with
  | zero =>
    intro k hk
    obtain rfl : k = 16 := by omega
    have h1 : ((16 : Int32) ≤ nI 16) = True := by decide
    rw [e_B_passHour_24]
    simp only [e_B_passHour_0, e_B_passHour_1, e_B_passHour_2, e_B_passHour_4, e_B_passHour_7, e_B_passHour_9, e_B_passHour_10, e_B_passHour_12, e_B_passHour_13, e_B_passHour_14, e_B_passHour_16, e_B_passHour_19, e_B_passHour_21, e_B_passHour_22, e_B_passHour_26, e_B_passHour_28, e_B_passHour_31, e_B_passHour_32, e_B_passHour_34, e_B_passHour_35, e_B_passHour_38, e_B_passHour_41, e_B_passHour_43, e_B_passHour_44, e_B_passHour_45, e_B_passHour_48, e_B_passHour_51, e_B_passHour_53, e_B_passHour_54, e_B_passHour_55, e_B_passHour_58, e_B_passHour_60, e_B_passHour_61, e_B_passHour_63, e_B_passHour_66, e_B_passHour_68, e_B_passHour_71, e_B_passHour_74, e_B_passHour_77, h1, if_true]
  | succ n ih =>
    intro k hk
    have hk16 : k < 16 := by omega
    have h1 : ((16 : Int32) ≤ nI k) = False := by
      rw [show (16 : Int32) = nI 16 from rfl, nI_le_l (by omega) (by omega)]
      exact eq_false (by omega)
    have hb := bad_nI (k := k) (n := 16) hk16 (by decide)
    have hc := nI_clamp (n := k) (by omega)
    rw [e_B_passHour_24]
    simp only [e_B_passHour_0, e_B_passHour_1, e_B_passHour_2, e_B_passHour_4, e_B_passHour_7, e_B_passHour_9, e_B_passHour_10, e_B_passHour_12, e_B_passHour_13, e_B_passHour_14, e_B_passHour_16, e_B_passHour_19, e_B_passHour_21, e_B_passHour_22, e_B_passHour_26, e_B_passHour_28, e_B_passHour_31, e_B_passHour_32, e_B_passHour_34, e_B_passHour_35, e_B_passHour_38, e_B_passHour_41, e_B_passHour_43, e_B_passHour_44, e_B_passHour_45, e_B_passHour_48, e_B_passHour_51, e_B_passHour_53, e_B_passHour_54, e_B_passHour_55, e_B_passHour_58, e_B_passHour_60, e_B_passHour_61, e_B_passHour_63, e_B_passHour_66, e_B_passHour_68, e_B_passHour_71, e_B_passHour_74, e_B_passHour_77, h1, if_false, sh_r_0_0, sh_r_1_2, sh_r_1_3, sh_o_1, sh_i_7, sh_i_8, pm_opt_some, pm_opt_if, hb, hc, Bool.false_eq_true, true_and, K_P_coldOf hk16, pk_i, ho, upC_ne h7.1 h7.2.1 h7.2.2, upC_ne h8.1 h8.2.1 h8.2.2]
    rw [show upC I a b c (hourF I a b c hour frost falls) k = pm_t (upC I a b c (hourF I a b c hour frost falls) k) a b c k (I a k, I b k, I c k) by
      have e := p3_id (I := upC I a b c (hourF I a b c hour frost falls) k) (j := k) hab hac hbc
      rw [upC_ge (Nat.le_refl k), upC_ge (Nat.le_refl k), upC_ge (Nat.le_refl k)] at e
      exact e.symm]
    rw [K_I_passT H hk16]
    have e2 := upC_s (I := I) (n := k) (f := hourF I a b c hour frost falls) hab hac hbc
    unfold hourF at e2 ⊢
    rw [e2]
    simp only [pk_v, e_B_passHour_0, e_B_passHour_1, e_B_passHour_2, e_B_passHour_4, e_B_passHour_7, e_B_passHour_9, e_B_passHour_10, e_B_passHour_12, e_B_passHour_13, e_B_passHour_14, e_B_passHour_16, e_B_passHour_19, e_B_passHour_21, e_B_passHour_22, e_B_passHour_26, e_B_passHour_28, e_B_passHour_31, e_B_passHour_32, e_B_passHour_34, e_B_passHour_35, e_B_passHour_38, e_B_passHour_41, e_B_passHour_43, e_B_passHour_44, e_B_passHour_45, e_B_passHour_48, e_B_passHour_51, e_B_passHour_53, e_B_passHour_54, e_B_passHour_55, e_B_passHour_58, e_B_passHour_60, e_B_passHour_61, e_B_passHour_63, e_B_passHour_66, e_B_passHour_68, e_B_passHour_71, e_B_passHour_74, e_B_passHour_77, nI_1]
    exact ih (k + 1) (by omega)
end P21
