/-! an hour in a cell, the reference's side -/
def T3ok (t : T3) : Prop := (0 ≤ t.1.toInt ∧ t.1.toInt ≤ 999) ∧ (0 ≤ t.2.1.toInt ∧ t.2.1.toInt ≤ 999) ∧ (0 ≤ t.2.2.toInt ∧ t.2.2.toInt ≤ 99)
section P33
variable {X : pm_X} {d : Nat} {P Q : pm_O → Prop} {g : List pm_S} {S : List pm_S} {I I' : Nat → Nat → Int32} {J : Nat → Nat → Int64} {a b c j : Nat} {x y z : Int32} {t : T3}
theorem k0 : (0 : Int32).toInt = 0 := rfl
theorem k1 : (1 : Int32).toInt = 1 := rfl
theorem k2 : (2 : Int32).toInt = 2 := rfl
theorem k5 : (5 : Int32).toInt = 5 := rfl
theorem k20 : (20 : Int32).toInt = 20 := rfl
theorem k99 : (99 : Int32).toInt = 99 := rfl
theorem k999 : (999 : Int32).toInt = 999 := rfl
theorem cov_toInt (h : T3ok t) : (20 + t.1 + t.2.1 + 5 * t.2.2).toInt = 20 + t.1.toInt + t.2.1.toInt + 5 * t.2.2.toInt := by
  obtain ⟨h1, h2, h3⟩ := h
  have e1 : (20 + t.1).toInt = 20 + t.1.toInt := i_add (by rw [k20]; omega) (by rw [k20]; omega)
  have e2 : (20 + t.1 + t.2.1).toInt = 20 + t.1.toInt + t.2.1.toInt := by rw [i_add (by rw [e1]; omega) (by rw [e1]; omega), e1]
  have e3 : (5 * t.2.2).toInt = 5 * t.2.2.toInt := by rw [i_mul (by rw [k5]; omega) (by rw [k5]; omega), k5]
  rw [i_add (by rw [e2, e3]; omega) (by rw [e2, e3]; omega), e2, e3]
theorem cov_max (h : T3ok t) : maxI 20 (20 + t.1 + t.2.1 + 5 * t.2.2) = 20 + t.1 + t.2.1 + 5 * t.2.2 := by
  rw [i_eq, maxI_toInt, cov_toInt h, k20]
  obtain ⟨h1, h2, h3⟩ := h
  omega
theorem cov_nz (h : T3ok t) : ¬ 20 + t.1 + t.2.1 + 5 * t.2.2 = 0 := by
  rw [i_eq, cov_toInt h, k0]
  obtain ⟨h1, h2, h3⟩ := h
  omega
theorem whT_ok (h : T3ok t) : T3ok (whT t) := by
  obtain ⟨h1, h2, h3⟩ := h
  unfold whT T3ok
  refine ⟨h1, ?_, ?_⟩
  · dsimp only
    split
    · exact h2
    · have e : (t.2.1 + 1).toInt = t.2.1.toInt + 1 := by rw [i_add (by rw [k1]; omega) (by rw [k1]; omega), k1]
      rw [minI_toInt, k999, e]
      omega
  · dsimp only
    split
    · exact h3
    · rename_i q
      have q' : ¬ t.2.2.toInt = 0 := fun z => q (i_eq.mpr (by rw [z]; rfl))
      have e : (t.2.2 - 1).toInt = t.2.2.toInt - 1 := by rw [i_sub (by rw [k1]; omega) (by rw [k1]; omega), k1]
      rw [e]
      omega
theorem grT_ok {cold : Int32} (h : T3ok t) (hc : 0 ≤ cold.toInt) (hc2 : cold.toInt ≤ 100000) : T3ok (grT cold t) := by
  have H := h
  obtain ⟨h1, h2, h3⟩ := h
  unfold grT
  rw [cov_max H]
  refine ⟨?_, h2, h3⟩
  have e := cov_toInt H
  have e1 : (20 * cold).toInt = 20 * cold.toInt := by rw [i_mul (by rw [k20]; omega) (by rw [k20]; omega), k20]
  have e2 : (20 * cold / (20 + t.1 + t.2.1 + 5 * t.2.2)).toInt = 20 * cold.toInt / (20 + t.1 + t.2.1 + 5 * t.2.2).toInt := by
    rw [i_div (by rw [e1]; omega) (by rw [e]; omega), e1]
  have a2 : 0 ≤ 20 * cold.toInt / (20 + t.1 + t.2.1 + 5 * t.2.2).toInt := Int.ediv_nonneg (by omega) (by omega)
  have a3 : 20 * cold.toInt / (20 + t.1 + t.2.1 + 5 * t.2.2).toInt ≤ 20 * cold.toInt := Int.ediv_le_self _ (by omega)
  have e3 : (t.1 + 20 * cold / (20 + t.1 + t.2.1 + 5 * t.2.2)).toInt = t.1.toInt + 20 * cold.toInt / (20 + t.1 + t.2.1 + 5 * t.2.2).toInt := by
    rw [i_add (by rw [e2]; omega) (by rw [e2]; omega), e2]
  dsimp only
  rw [minI_toInt, e3, k999]
  omega
theorem meT_ok {heat : Int32} (h : T3ok t) (hc : 0 ≤ heat.toInt) : T3ok (meT heat t) := by
  obtain ⟨h1, h2, h3⟩ := h
  have a := i_hi heat
  have e1 : (minI t.2.2 heat).toInt = min t.2.2.toInt heat.toInt := minI_toInt _ _
  have e2 : (heat - minI t.2.2 heat).toInt = heat.toInt - min t.2.2.toInt heat.toInt := by rw [i_sub (by rw [e1]; omega) (by rw [e1]; omega), e1]
  have e3 : (minI t.2.1 (heat - minI t.2.2 heat)).toInt = min t.2.1.toInt (heat.toInt - min t.2.2.toInt heat.toInt) := by rw [minI_toInt, e2]
  have e4 : (heat - minI t.2.2 heat - minI t.2.1 (heat - minI t.2.2 heat)).toInt = heat.toInt - min t.2.2.toInt heat.toInt - min t.2.1.toInt (heat.toInt - min t.2.2.toInt heat.toInt) := by rw [i_sub (by rw [e2, e3]; omega) (by rw [e2, e3]; omega), e2, e3]
  have e5 : (minI t.1 (heat - minI t.2.2 heat - minI t.2.1 (heat - minI t.2.2 heat))).toInt = min t.1.toInt (heat.toInt - min t.2.2.toInt heat.toInt - min t.2.1.toInt (heat.toInt - min t.2.2.toInt heat.toInt)) := by rw [minI_toInt, e4]
  unfold meT
  refine ⟨?_, ?_, ?_⟩
  · dsimp only
    rw [i_sub (by rw [e5]; omega) (by rw [e5]; omega), e5]
    omega
  · dsimp only
    rw [i_sub (by rw [e3]; omega) (by rw [e3]; omega), e3]
    omega
  · dsimp only
    rw [i_sub (by rw [e1]; omega) (by rw [e1]; omega), e1]
    omega
theorem p1T_ok {falls : Int32} (h : T3ok t) (hf : 0 ≤ falls.toInt ∧ falls.toInt ≤ 2000) : T3ok (p1T falls t) := by
  unfold p1T
  split
  · exact h
  · obtain ⟨h1, h2, h3⟩ := h
    have e : (t.2.2 + falls).toInt = t.2.2.toInt + falls.toInt := i_add (by omega) (by omega)
    refine ⟨h1, h2, ?_⟩
    dsimp only
    rw [minI_toInt, e, k99]
    omega
theorem p2T_ok {kind cold : Int32} (h : T3ok t) (hc : cold.toInt ≤ 100000) : T3ok (p2T kind cold t) := by
  unfold p2T
  split
  · exact h
  · rename_i q
    have q' : 0 ≤ cold.toInt := by
      rw [i_le, k0] at q
      omega
    split
    · exact grT_ok (whT_ok h) q' hc
    · exact grT_ok h q' hc
theorem p3T_ok {cold : Int32} (h : T3ok t) (hc : -100000 ≤ cold.toInt) : T3ok (p3T cold t) := by
  unfold p3T
  split
  · exact h
  · rename_i q
    refine meT_ok h ?_
    rw [i_le, k0] at q
    rw [i_neg (by omega)]
    omega
theorem p4T_ok {kind : Int32} (h : T3ok t) : T3ok (p4T kind t) := by
  unfold p4T
  split
  · refine ⟨h.1, h.2.1, ?_⟩
    dsimp only
    rw [k0]
    omega
  · exact h
theorem p5T_ok {kind v cold : Int32} (h : T3ok t) : T3ok (p5T kind v cold t) := by
  unfold p5T
  split
  · unfold T3ok
    dsimp only
    rw [k0]
    omega
  · exact h
theorem passT_ok {kind v cold falls : Int32} (h : T3ok t) (hf : 0 ≤ falls.toInt ∧ falls.toInt ≤ 2000) (hc : -100000 ≤ cold.toInt ∧ cold.toInt ≤ 100000) : T3ok (passT kind v cold falls t) := p5T_ok (p4T_ok (p3T_ok (p2T_ok (p1T_ok h hf) hc.2) hc.1))
/-- calls of the reference -/
theorem K_M_in {a b c : Int32} : pm_cl X (d + 1) 107 [.ref 82, .int a, .int b, .int c] (S, I, J) P = if b ≤ a ∧ a ≤ c then P (some (.int 1), (S, I, J)) else P (some (.int 0), (S, I, J)) := by
  refine K_if (k := 0) (fun hq d' => ?_) (fun hq d' => ?_)
  · show pm_V X d' 107 0 [some (.ref 82), some (.int a), some (.int b), some (.int c)] [] (S, I, J) _
    simp only [e_M_in_0, e_M_in_1, e_M_in_2, e_M_in_5, e_M_in_6, e_M_in_7, e_M_in_10, e_M_in_11, e_M_in_14, e_M_in_15]
    rw [if_neg (Int32.not_lt.mpr hq.1), if_neg (Int32.not_lt.mpr hq.2)]
    simp
  · show pm_V X d' 107 0 [some (.ref 82), some (.int a), some (.int b), some (.int c)] [] (S, I, J) _
    simp only [e_M_in_0, e_M_in_1, e_M_in_2, e_M_in_5, e_M_in_6, e_M_in_7, e_M_in_10, e_M_in_11, e_M_in_14, e_M_in_15]
    split
    · simp
    · split
      · simp
      · exact absurd ⟨Int32.not_lt.mp ‹_›, Int32.not_lt.mp ‹_›⟩ hq
theorem K_M_min {a b : Int32} : pm_cl X (d + 1) 108 [.ref 82, .int a, .int b] (S, I, J) P = P (some (.int (minI a b)), (S, I, J)) := by
  refine K_of (k := 0) (fun d' => ?_)
  show pm_V X d' 108 0 [some (.ref 82), some (.int a), some (.int b)] [] (S, I, J) _
  simp only [e_M_min_0, e_M_min_1, e_M_min_2, e_M_min_5, e_M_min_6, e_M_min_9, e_M_min_10]
  have e : minI a b = if b ≤ a then b else a := by
    by_cases q : b ≤ a
    · rw [if_pos q, i_eq, minI_toInt]
      rw [i_le] at q
      omega
    · rw [if_neg q, i_eq, minI_toInt]
      rw [i_le] at q
      omega
  rw [e]
  by_cases q : b ≤ a
  · simp [q]
  · simp [q]
theorem p3_ne {q : Nat} (h1 : ¬ q = a) (h2 : ¬ q = b) (h3 : ¬ q = c) : pm_3 I a b c j x y z q = I q := by
  funext k
  unfold pm_3
  simp [h1, h2, h3]
theorem pos_iff (h : 0 ≤ z.toInt) : (z ≤ 0) = (z = 0) := by
  refine propext ⟨fun q => ?_, fun q => ?_⟩
  · rw [i_le, k0] at q
    rw [i_eq, k0]
    omega
  · rw [q]
    exact Int32.le_refl 0
theorem K_M_freeze {cold : Int32} (h87 : I 87 = I 7) (hj : j < 16) (ht : T3ok t) : pm_cl X (d + 2) 142 [.ref 82, .int (nI j), .int cold] (pm_S0 ++ g, pm_t I 99 100 101 j t, J) P = P (none, (pm_S0 ++ g, pm_t I 99 100 101 j (if I 7 j = 2 ∨ I 7 j = 5 then grT cold (whT t) else grT cold t), J)) := by
  have hb := bad_nI (k := j) (n := 16) hj (by decide)
  have hc := nI_clamp (n := j) (by omega)
  have n1 : (99 : Nat) ≠ 100 := by decide
  have n2 : (99 : Nat) ≠ 101 := by decide
  have n3 : (100 : Nat) ≠ 101 := by decide
  have r87 : ∀ {x y z : Int32}, pm_3 I 99 100 101 j x y z 87 = I 7 := fun {x y z} => (p3_ne (by decide) (by decide) (by decide)).trans h87
  have A : ∀ (d : Nat) (Q : pm_O → Prop) (t : T3) (w : Int32), T3ok t → pm_V X (d + 1) 142 70 [some (.ref 82), some (.int (nI j)), some (.int cold), some (.int w)] [] (pm_S0 ++ g, pm_t I 99 100 101 j t, J) Q = Q (none, (pm_S0 ++ g, pm_t I 99 100 101 j (grT cold t), J)) := by
    intro d Q t w ht
    have nz := cov_nz ht
    simp only [e_M_freeze_0, e_M_freeze_1, e_M_freeze_4, e_M_freeze_5, e_M_freeze_6, e_M_freeze_7, e_M_freeze_10, e_M_freeze_11, e_M_freeze_14, e_M_freeze_15, e_M_freeze_16, e_M_freeze_17, e_M_freeze_20, e_M_freeze_21, e_M_freeze_24, e_M_freeze_25, e_M_freeze_26, e_M_freeze_27, e_M_freeze_30, e_M_freeze_31, e_M_freeze_34, e_M_freeze_35, e_M_freeze_36, e_M_freeze_39, e_M_freeze_40, e_M_freeze_43, e_M_freeze_44, e_M_freeze_45, e_M_freeze_46, e_M_freeze_47, e_M_freeze_48, e_M_freeze_49, e_M_freeze_50, e_M_freeze_53, e_M_freeze_54, e_M_freeze_55, e_M_freeze_58, e_M_freeze_59, e_M_freeze_62, e_M_freeze_63, e_M_freeze_64, e_M_freeze_65, e_M_freeze_66, e_M_freeze_69, e_M_freeze_70, e_M_freeze_71, e_M_freeze_74, e_M_freeze_75, e_M_freeze_76, e_M_freeze_79, e_M_freeze_80, e_M_freeze_83, e_M_freeze_84, e_M_freeze_85, e_M_freeze_87, e_M_freeze_88, e_M_freeze_89, e_M_freeze_91, e_M_freeze_92, e_M_freeze_95, e_M_freeze_96, e_M_freeze_97, e_M_freeze_98, e_M_freeze_99, e_M_freeze_102, e_M_freeze_103, e_M_freeze_104, e_M_freeze_105, e_M_freeze_106, e_M_freeze_107, e_M_freeze_110, e_M_freeze_111, e_M_freeze_112, e_M_freeze_113, e_M_freeze_114, e_M_freeze_115, e_M_freeze_116, e_M_freeze_119, e_M_freeze_120, sh_o_82, sh_r_82_28, sh_r_82_29, sh_r_82_30, sh_i_99, sh_i_100, sh_i_101, sh_w_99, hb, hc, K_M_min, pm_t, p3_a, p3_b n1, p3_c n2 n3, p3_wa, nz, pm_opt_some, pm_opt_none, pm_opt_if, Bool.false_eq_true, Bool.not_false, Bool.not_true, if_false, if_true, true_and, and_true, true_or, or_true, not_true_eq_false, not_false_eq_true, q10, q00, q01, q11, pk_v, pk_i, pk_l, pk_r]
    unfold grT
    rw [cov_max ht]
  have B : ∀ (d : Nat) (Q : pm_O → Prop) (w : Int32), w = (if I 7 j = 2 ∨ I 7 j = 5 then 1 else 0) → pm_V X (d + 1) 142 25 [some (.ref 82), some (.int (nI j)), some (.int cold), none] [.int w] (pm_S0 ++ g, pm_t I 99 100 101 j t, J) Q = Q (none, (pm_S0 ++ g, pm_t I 99 100 101 j (if I 7 j = 2 ∨ I 7 j = 5 then grT cold (whT t) else grT cold t), J)) := by
    intro d Q w hw
    have hz := pos_iff ht.2.2.1
    simp only [e_M_freeze_0, e_M_freeze_1, e_M_freeze_4, e_M_freeze_5, e_M_freeze_6, e_M_freeze_7, e_M_freeze_10, e_M_freeze_11, e_M_freeze_14, e_M_freeze_15, e_M_freeze_16, e_M_freeze_17, e_M_freeze_20, e_M_freeze_21, e_M_freeze_24, e_M_freeze_25, e_M_freeze_26, e_M_freeze_27, e_M_freeze_30, e_M_freeze_31, e_M_freeze_34, e_M_freeze_35, e_M_freeze_36, e_M_freeze_39, e_M_freeze_40, e_M_freeze_43, e_M_freeze_44, e_M_freeze_45, e_M_freeze_46, e_M_freeze_47, e_M_freeze_48, e_M_freeze_49, e_M_freeze_50, e_M_freeze_53, e_M_freeze_54, e_M_freeze_55, e_M_freeze_58, e_M_freeze_59, e_M_freeze_62, e_M_freeze_63, e_M_freeze_64, e_M_freeze_65, e_M_freeze_66, e_M_freeze_69, e_M_freeze_71, e_M_freeze_74, e_M_freeze_75, e_M_freeze_76, e_M_freeze_79, e_M_freeze_80, e_M_freeze_83, e_M_freeze_84, e_M_freeze_85, e_M_freeze_87, e_M_freeze_88, e_M_freeze_89, e_M_freeze_91, e_M_freeze_92, e_M_freeze_95, e_M_freeze_96, e_M_freeze_97, e_M_freeze_98, e_M_freeze_99, e_M_freeze_102, e_M_freeze_103, e_M_freeze_104, e_M_freeze_105, e_M_freeze_106, e_M_freeze_107, e_M_freeze_110, e_M_freeze_111, e_M_freeze_112, e_M_freeze_113, e_M_freeze_114, e_M_freeze_115, e_M_freeze_116, e_M_freeze_119, e_M_freeze_120, sh_o_82, sh_r_82_29, sh_r_82_30, sh_i_100, sh_i_101, sh_w_100, sh_w_101, hb, hc, K_M_min, pm_t, p3_a, p3_b n1, p3_c n2 n3, p3_wa, p3_wb n1, p3_wc n2 n3, hz, pm_opt_some, pm_opt_none, pm_opt_if, Bool.false_eq_true, Bool.not_false, Bool.not_true, if_false, if_true, true_and, and_true, true_or, or_true, not_true_eq_false, not_false_eq_true, q10, q00, q01, q11, pk_v, pk_i, pk_l, pk_r]
    simp only [pt_d]
    rw [A d Q _ w ht]
    by_cases q : I 7 j = 2 ∨ I 7 j = 5
    · rw [if_pos q] at hw
      subst hw
      simp only [q10, if_false, if_pos q]
      by_cases q2 : t.2.2 = 0
      · have e : whT t = t := by
          unfold whT
          rw [if_pos q2, if_pos q2]
        rw [if_pos q2, e]
      · have e : whT t = (t.1, minI 999 (t.2.1 + 1), t.2.2 - 1) := by
          unfold whT
          rw [if_neg q2, if_neg q2]
        rw [if_neg q2, ← e, A d Q _ 1 (whT_ok ht)]
    · rw [if_neg q] at hw
      subst hw
      simp only [q00, if_true, if_neg q]
  refine K_of (k := 1) (fun d' => ?_)
  show pm_V X (d' + 1) 142 0 [some (.ref 82), some (.int (nI j)), some (.int cold), none] [] (pm_S0 ++ g, pm_t I 99 100 101 j t, J) _
  simp only [e_M_freeze_0, e_M_freeze_1, e_M_freeze_4, e_M_freeze_5, e_M_freeze_6, e_M_freeze_7, e_M_freeze_10, e_M_freeze_11, e_M_freeze_14, e_M_freeze_15, e_M_freeze_16, e_M_freeze_17, e_M_freeze_20, e_M_freeze_21, e_M_freeze_24, e_M_freeze_26, e_M_freeze_27, e_M_freeze_30, e_M_freeze_31, e_M_freeze_34, e_M_freeze_35, e_M_freeze_36, e_M_freeze_39, e_M_freeze_40, e_M_freeze_43, e_M_freeze_44, e_M_freeze_45, e_M_freeze_46, e_M_freeze_47, e_M_freeze_48, e_M_freeze_49, e_M_freeze_50, e_M_freeze_53, e_M_freeze_54, e_M_freeze_55, e_M_freeze_58, e_M_freeze_59, e_M_freeze_62, e_M_freeze_63, e_M_freeze_64, e_M_freeze_65, e_M_freeze_66, e_M_freeze_69, e_M_freeze_71, e_M_freeze_74, e_M_freeze_75, e_M_freeze_76, e_M_freeze_79, e_M_freeze_80, e_M_freeze_83, e_M_freeze_84, e_M_freeze_85, e_M_freeze_87, e_M_freeze_88, e_M_freeze_89, e_M_freeze_91, e_M_freeze_92, e_M_freeze_95, e_M_freeze_96, e_M_freeze_97, e_M_freeze_98, e_M_freeze_99, e_M_freeze_102, e_M_freeze_103, e_M_freeze_104, e_M_freeze_105, e_M_freeze_106, e_M_freeze_107, e_M_freeze_110, e_M_freeze_111, e_M_freeze_112, e_M_freeze_113, e_M_freeze_114, e_M_freeze_115, e_M_freeze_116, e_M_freeze_119, e_M_freeze_120, sh_r_82_6, sh_i_87, hb, hc, pm_t, r87, pm_opt_some, pm_opt_none, pm_opt_if, Bool.false_eq_true, Bool.not_false, Bool.not_true, if_false, if_true, true_and, and_true, true_or, or_true, not_true_eq_false, not_false_eq_true, q10, q00, q01, q11, pk_v, pk_i, pk_l, pk_r]
  simp only [pt_d]
  by_cases q : I 7 j = 2
  · rw [if_pos q, B d' _ 1 (by simp [q])]
  · rw [if_neg q]
    by_cases q2 : I 7 j = 5
    · simp only [q2, not_true_eq_false, if_false]
      rw [B d' _ 1 (by simp [q2])]
      simp [q2]
    · simp only [q2, not_false_eq_true, if_true]
      rw [B d' _ 0 (by simp [q, q2])]
      simp [q, q2]
theorem K_M_melt {heat : Int32} (hj : j < 16) : pm_cl X (d + 2) 143 [.ref 82, .int (nI j), .int heat] (pm_S0 ++ g, pm_t I 99 100 101 j t, J) P = P (none, (pm_S0 ++ g, pm_t I 99 100 101 j (meT heat t), J)) := by
  have hb := bad_nI (k := j) (n := 16) hj (by decide)
  have hc := nI_clamp (n := j) (by omega)
  have n1 : (99 : Nat) ≠ 100 := by decide
  have n2 : (99 : Nat) ≠ 101 := by decide
  have n3 : (100 : Nat) ≠ 101 := by decide
  refine K_of (k := 1) (fun d' => ?_)
  show pm_V X (d' + 1) 143 0 [some (.ref 82), some (.int (nI j)), some (.int heat), none, none, none] [] (pm_S0 ++ g, pm_t I 99 100 101 j t, J) _
  simp only [e_M_melt_0, e_M_melt_1, e_M_melt_2, e_M_melt_3, e_M_melt_4, e_M_melt_5, e_M_melt_8, e_M_melt_9, e_M_melt_10, e_M_melt_13, e_M_melt_15, e_M_melt_16, e_M_melt_19, e_M_melt_20, e_M_melt_21, e_M_melt_22, e_M_melt_24, e_M_melt_25, e_M_melt_26, e_M_melt_27, e_M_melt_29, e_M_melt_30, e_M_melt_31, e_M_melt_32, e_M_melt_33, e_M_melt_34, e_M_melt_37, e_M_melt_38, e_M_melt_39, e_M_melt_42, e_M_melt_44, e_M_melt_45, e_M_melt_48, e_M_melt_49, e_M_melt_50, e_M_melt_51, e_M_melt_53, e_M_melt_54, e_M_melt_55, e_M_melt_56, e_M_melt_58, e_M_melt_59, e_M_melt_60, e_M_melt_61, e_M_melt_64, e_M_melt_65, e_M_melt_66, e_M_melt_67, e_M_melt_68, e_M_melt_69, e_M_melt_70, e_M_melt_73, e_M_melt_74, e_M_melt_75, e_M_melt_78, e_M_melt_79, e_M_melt_80, sh_o_82, sh_r_82_28, sh_r_82_29, sh_r_82_30, sh_i_99, sh_i_100, sh_i_101, sh_w_99, sh_w_100, sh_w_101, hb, hc, K_M_min, pm_t, p3_a, p3_b n1, p3_c n2 n3, p3_wa, p3_wb n1, p3_wc n2 n3, pm_opt_some, pm_opt_none, pm_opt_if, Bool.false_eq_true, Bool.not_false, Bool.not_true, if_false, if_true, true_and, and_true, true_or, or_true, not_true_eq_false, not_false_eq_true, q10, q00, q01, q11, pk_v, pk_i, pk_l, pk_r]
  unfold meT
  rw [minI_comm heat, minI_comm _ t.2.1, minI_comm _ t.1]
/-- is a cell near another -/
def nrB (a b : Int32) : Bool := decide ((a / 4 - b / 4) * (a / 4 - b / 4) + (a - a / 4 * 4 - (b - b / 4 * 4)) * (a - a / 4 * 4 - (b - b / 4 * 4)) = 1)
theorem q4z : ((4 : Int32) = 0) = False := by decide
theorem K_M_areNear {a b : Int32} : pm_cl X (d + 1) 111 [.ref 82, .int a, .int b] (S, I, J) P = P (some (.int (if nrB a b = true then 1 else 0)), (S, I, J)) := by
  refine K_of (k := 0) (fun d' => ?_)
  show pm_V X d' 111 0 [some (.ref 82), some (.int a), some (.int b), none, none] [] (S, I, J) _
  simp only [e_M_areNear_0, e_M_areNear_1, e_M_areNear_2, e_M_areNear_3, e_M_areNear_4, e_M_areNear_5, e_M_areNear_6, e_M_areNear_7, e_M_areNear_8, e_M_areNear_9, e_M_areNear_10, e_M_areNear_11, e_M_areNear_12, e_M_areNear_13, e_M_areNear_14, e_M_areNear_15, e_M_areNear_17, e_M_areNear_18, e_M_areNear_19, e_M_areNear_20, e_M_areNear_22, e_M_areNear_24, e_M_areNear_25, e_M_areNear_26, e_M_areNear_27, e_M_areNear_30, e_M_areNear_31, e_M_areNear_34, e_M_areNear_35, q4z, pm_opt_some, pm_opt_none, pm_opt_if, Bool.false_eq_true, Bool.not_false, Bool.not_true, if_false, if_true, true_and, and_true, true_or, or_true, not_true_eq_false, not_false_eq_true, q10, q00, q01, q11, pk_v, pk_i, pk_l, pk_r]
  unfold nrB
  by_cases q : (a / 4 - b / 4) * (a / 4 - b / 4) + (a - a / 4 * 4 - (b - b / 4 * 4)) * (a - a / 4 * 4 - (b - b / 4 * 4)) = 1
  · simp [q]
  · simp [q]
/-- the lamp's heat -/
def ltI (I : Nat → Nat → Int32) (j : Nat) : Int32 := if I 82 27 < 0 then 0 else if I 82 27 = nI j then 3 else if nrB (I 82 27) (nI j) = true then 3 else 0
theorem ltI_fr (h : I' 82 27 = I 82 27) : ltI I' j = ltI I j := by
  unfold ltI
  simp only [h]
theorem K_M_coldOf {hour frost : Int32} (h87 : I 87 = I 7) (h88 : I 88 = I 8) (hj : j < 16) : pm_cl X (d + 2) 140 [.ref 82, .int (nI j), .int hour, .int frost] (pm_S0 ++ g, I, J) P = P (some (.int (coldI (I 7 j) (I 8 j) hour (frost - ltI I j))), (pm_S0 ++ g, I, J)) := by
  have hb := bad_nI (k := j) (n := 16) hj (by decide)
  have hc := nI_clamp (n := j) (by omega)
  refine K_of (k := 1) (fun d' => ?_)
  show pm_V X (d' + 1) 140 0 [some (.ref 82), some (.int (nI j)), some (.int hour), some (.int frost), none, none] [] (pm_S0 ++ g, I, J) _
  have tail : ∀ (Q : pm_O → Prop) (noon fr : Int32), (noon = 0 ∨ noon = 1) → pm_V X (d' + 1) 140 50 [some (.ref 82), some (.int (nI j)), some (.int hour), some (.int frost), some (.int noon), some (.int fr)] [] (pm_S0 ++ g, I, J) Q = Q (some (.int (if I 7 j = 3 ∨ I 7 j = 6 then fr - I 8 j else if I 7 j = 4 then (if noon = 1 then fr - I 8 j else fr) else if I 7 j = 5 then (if noon = 1 then fr + I 8 j else fr) else fr)), (pm_S0 ++ g, I, J)) := by
    intro Q noon fr hn
    by_cases k3 : I 7 j = 3
    · simp only [e_M_coldOf_0, e_M_coldOf_1, e_M_coldOf_2, e_M_coldOf_4, e_M_coldOf_5, e_M_coldOf_7, e_M_coldOf_9, e_M_coldOf_12, e_M_coldOf_14, e_M_coldOf_15, e_M_coldOf_16, e_M_coldOf_19, e_M_coldOf_22, e_M_coldOf_23, e_M_coldOf_26, e_M_coldOf_27, e_M_coldOf_30, e_M_coldOf_31, e_M_coldOf_32, e_M_coldOf_35, e_M_coldOf_36, e_M_coldOf_39, e_M_coldOf_42, e_M_coldOf_43, e_M_coldOf_46, e_M_coldOf_47, e_M_coldOf_48, e_M_coldOf_50, e_M_coldOf_51, e_M_coldOf_54, e_M_coldOf_55, e_M_coldOf_56_c3, e_M_coldOf_56_c4, e_M_coldOf_56_c5, e_M_coldOf_56_c6, e_M_coldOf_56_d, e_M_coldOf_88, e_M_coldOf_90, e_M_coldOf_91, e_M_coldOf_94, e_M_coldOf_95, e_M_coldOf_96, e_M_coldOf_97, e_M_coldOf_98, e_M_coldOf_100, e_M_coldOf_103, e_M_coldOf_105, e_M_coldOf_106, e_M_coldOf_109, e_M_coldOf_110, e_M_coldOf_111, e_M_coldOf_112, e_M_coldOf_115, e_M_coldOf_117, e_M_coldOf_118, e_M_coldOf_120, e_M_coldOf_123, e_M_coldOf_125, e_M_coldOf_126, e_M_coldOf_129, e_M_coldOf_130, e_M_coldOf_131, e_M_coldOf_132, e_M_coldOf_135, e_M_coldOf_137, e_M_coldOf_138, e_M_coldOf_140, sh_r_82_6, sh_r_82_7, sh_i_87, sh_i_88, h87, h88, hb, hc, k3, pm_opt_some, pm_opt_none, pm_opt_if, Bool.false_eq_true, Bool.not_false, Bool.not_true, if_false, if_true, true_and, and_true, true_or, or_true, not_true_eq_false, not_false_eq_true, q10, q00, q01, q11, pk_v, pk_i, pk_l, pk_r]
    · by_cases k6 : I 7 j = 6
      · simp only [e_M_coldOf_0, e_M_coldOf_1, e_M_coldOf_2, e_M_coldOf_4, e_M_coldOf_5, e_M_coldOf_7, e_M_coldOf_9, e_M_coldOf_12, e_M_coldOf_14, e_M_coldOf_15, e_M_coldOf_16, e_M_coldOf_19, e_M_coldOf_22, e_M_coldOf_23, e_M_coldOf_26, e_M_coldOf_27, e_M_coldOf_30, e_M_coldOf_31, e_M_coldOf_32, e_M_coldOf_35, e_M_coldOf_36, e_M_coldOf_39, e_M_coldOf_42, e_M_coldOf_43, e_M_coldOf_46, e_M_coldOf_47, e_M_coldOf_48, e_M_coldOf_50, e_M_coldOf_51, e_M_coldOf_54, e_M_coldOf_55, e_M_coldOf_56_c3, e_M_coldOf_56_c4, e_M_coldOf_56_c5, e_M_coldOf_56_c6, e_M_coldOf_56_d, e_M_coldOf_88, e_M_coldOf_90, e_M_coldOf_91, e_M_coldOf_94, e_M_coldOf_95, e_M_coldOf_96, e_M_coldOf_97, e_M_coldOf_98, e_M_coldOf_100, e_M_coldOf_103, e_M_coldOf_105, e_M_coldOf_106, e_M_coldOf_109, e_M_coldOf_110, e_M_coldOf_111, e_M_coldOf_112, e_M_coldOf_115, e_M_coldOf_117, e_M_coldOf_118, e_M_coldOf_120, e_M_coldOf_123, e_M_coldOf_125, e_M_coldOf_126, e_M_coldOf_129, e_M_coldOf_130, e_M_coldOf_131, e_M_coldOf_132, e_M_coldOf_135, e_M_coldOf_137, e_M_coldOf_138, e_M_coldOf_140, sh_r_82_6, sh_r_82_7, sh_i_87, sh_i_88, h87, h88, hb, hc, k6, pm_opt_some, pm_opt_none, pm_opt_if, Bool.false_eq_true, Bool.not_false, Bool.not_true, if_false, if_true, true_and, and_true, true_or, or_true, not_true_eq_false, not_false_eq_true, q10, q00, q01, q11, pk_v, pk_i, pk_l, pk_r]
      · by_cases k4 : I 7 j = 4
        · simp only [e_M_coldOf_0, e_M_coldOf_1, e_M_coldOf_2, e_M_coldOf_4, e_M_coldOf_5, e_M_coldOf_7, e_M_coldOf_9, e_M_coldOf_12, e_M_coldOf_14, e_M_coldOf_15, e_M_coldOf_16, e_M_coldOf_19, e_M_coldOf_22, e_M_coldOf_23, e_M_coldOf_26, e_M_coldOf_27, e_M_coldOf_30, e_M_coldOf_31, e_M_coldOf_32, e_M_coldOf_35, e_M_coldOf_36, e_M_coldOf_39, e_M_coldOf_42, e_M_coldOf_43, e_M_coldOf_46, e_M_coldOf_47, e_M_coldOf_48, e_M_coldOf_50, e_M_coldOf_51, e_M_coldOf_54, e_M_coldOf_55, e_M_coldOf_56_c3, e_M_coldOf_56_c4, e_M_coldOf_56_c5, e_M_coldOf_56_c6, e_M_coldOf_56_d, e_M_coldOf_88, e_M_coldOf_90, e_M_coldOf_91, e_M_coldOf_94, e_M_coldOf_95, e_M_coldOf_96, e_M_coldOf_97, e_M_coldOf_98, e_M_coldOf_100, e_M_coldOf_103, e_M_coldOf_105, e_M_coldOf_106, e_M_coldOf_109, e_M_coldOf_110, e_M_coldOf_111, e_M_coldOf_112, e_M_coldOf_115, e_M_coldOf_117, e_M_coldOf_118, e_M_coldOf_120, e_M_coldOf_123, e_M_coldOf_125, e_M_coldOf_126, e_M_coldOf_129, e_M_coldOf_130, e_M_coldOf_131, e_M_coldOf_132, e_M_coldOf_135, e_M_coldOf_137, e_M_coldOf_138, e_M_coldOf_140, sh_r_82_6, sh_r_82_7, sh_i_87, sh_i_88, h87, h88, hb, hc, k4, pm_opt_some, pm_opt_none, pm_opt_if, Bool.false_eq_true, Bool.not_false, Bool.not_true, if_false, if_true, true_and, and_true, true_or, or_true, not_true_eq_false, not_false_eq_true, q10, q00, q01, q11, pk_v, pk_i, pk_l, pk_r]
          rcases hn with rfl | rfl <;> simp
        · by_cases k5 : I 7 j = 5
          · simp only [e_M_coldOf_0, e_M_coldOf_1, e_M_coldOf_2, e_M_coldOf_4, e_M_coldOf_5, e_M_coldOf_7, e_M_coldOf_9, e_M_coldOf_12, e_M_coldOf_14, e_M_coldOf_15, e_M_coldOf_16, e_M_coldOf_19, e_M_coldOf_22, e_M_coldOf_23, e_M_coldOf_26, e_M_coldOf_27, e_M_coldOf_30, e_M_coldOf_31, e_M_coldOf_32, e_M_coldOf_35, e_M_coldOf_36, e_M_coldOf_39, e_M_coldOf_42, e_M_coldOf_43, e_M_coldOf_46, e_M_coldOf_47, e_M_coldOf_48, e_M_coldOf_50, e_M_coldOf_51, e_M_coldOf_54, e_M_coldOf_55, e_M_coldOf_56_c3, e_M_coldOf_56_c4, e_M_coldOf_56_c5, e_M_coldOf_56_c6, e_M_coldOf_56_d, e_M_coldOf_88, e_M_coldOf_90, e_M_coldOf_91, e_M_coldOf_94, e_M_coldOf_95, e_M_coldOf_96, e_M_coldOf_97, e_M_coldOf_98, e_M_coldOf_100, e_M_coldOf_103, e_M_coldOf_105, e_M_coldOf_106, e_M_coldOf_109, e_M_coldOf_110, e_M_coldOf_111, e_M_coldOf_112, e_M_coldOf_115, e_M_coldOf_117, e_M_coldOf_118, e_M_coldOf_120, e_M_coldOf_123, e_M_coldOf_125, e_M_coldOf_126, e_M_coldOf_129, e_M_coldOf_130, e_M_coldOf_131, e_M_coldOf_132, e_M_coldOf_135, e_M_coldOf_137, e_M_coldOf_138, e_M_coldOf_140, sh_r_82_6, sh_r_82_7, sh_i_87, sh_i_88, h87, h88, hb, hc, k5, pm_opt_some, pm_opt_none, pm_opt_if, Bool.false_eq_true, Bool.not_false, Bool.not_true, if_false, if_true, true_and, and_true, true_or, or_true, not_true_eq_false, not_false_eq_true, q10, q00, q01, q11, pk_v, pk_i, pk_l, pk_r]
            rcases hn with rfl | rfl <;> simp
          · have hx : (I 7 j).toInt < 3 ∨ 6 < (I 7 j).toInt := by
              have h3 : ¬ (I 7 j).toInt = 3 := fun e => k3 (i32_of (n := 3) (by decide) e)
              have h4 : ¬ (I 7 j).toInt = 4 := fun e => k4 (i32_of (n := 4) (by decide) e)
              have h5 : ¬ (I 7 j).toInt = 5 := fun e => k5 (i32_of (n := 5) (by decide) e)
              have h6 : ¬ (I 7 j).toInt = 6 := fun e => k6 (i32_of (n := 6) (by decide) e)
              omega
            simp only [e_M_coldOf_0, e_M_coldOf_1, e_M_coldOf_2, e_M_coldOf_4, e_M_coldOf_5, e_M_coldOf_7, e_M_coldOf_9, e_M_coldOf_12, e_M_coldOf_14, e_M_coldOf_15, e_M_coldOf_16, e_M_coldOf_19, e_M_coldOf_22, e_M_coldOf_23, e_M_coldOf_26, e_M_coldOf_27, e_M_coldOf_30, e_M_coldOf_31, e_M_coldOf_32, e_M_coldOf_35, e_M_coldOf_36, e_M_coldOf_39, e_M_coldOf_42, e_M_coldOf_43, e_M_coldOf_46, e_M_coldOf_47, e_M_coldOf_48, e_M_coldOf_50, e_M_coldOf_51, e_M_coldOf_54, e_M_coldOf_55, e_M_coldOf_88, e_M_coldOf_90, e_M_coldOf_91, e_M_coldOf_94, e_M_coldOf_95, e_M_coldOf_96, e_M_coldOf_97, e_M_coldOf_98, e_M_coldOf_100, e_M_coldOf_103, e_M_coldOf_105, e_M_coldOf_106, e_M_coldOf_109, e_M_coldOf_110, e_M_coldOf_111, e_M_coldOf_112, e_M_coldOf_115, e_M_coldOf_117, e_M_coldOf_118, e_M_coldOf_120, e_M_coldOf_123, e_M_coldOf_125, e_M_coldOf_126, e_M_coldOf_129, e_M_coldOf_130, e_M_coldOf_131, e_M_coldOf_132, e_M_coldOf_135, e_M_coldOf_137, e_M_coldOf_138, e_M_coldOf_140, sh_r_82_6, sh_r_82_7, sh_i_87, sh_i_88, h87, h88, hb, hc, e_M_coldOf_56_d hx, k3, k4, k5, k6, or_self, pm_opt_some, pm_opt_none, pm_opt_if, Bool.false_eq_true, Bool.not_false, Bool.not_true, if_false, if_true, true_and, and_true, true_or, or_true, not_true_eq_false, not_false_eq_true, q10, q00, q01, q11, pk_v, pk_i, pk_l, pk_r]
  have mid : ∀ (Q : pm_O → Prop) (noon : Int32), (noon = 0 ∨ noon = 1) → pm_V X (d' + 1) 140 14 [some (.ref 82), some (.int (nI j)), some (.int hour), some (.int frost), some (.int noon), none] [] (pm_S0 ++ g, I, J) Q = Q (some (.int (if I 7 j = 3 ∨ I 7 j = 6 then frost - ltI I j - I 8 j else if I 7 j = 4 then (if noon = 1 then frost - ltI I j - I 8 j else frost - ltI I j) else if I 7 j = 5 then (if noon = 1 then frost - ltI I j + I 8 j else frost - ltI I j) else frost - ltI I j)), (pm_S0 ++ g, I, J)) := by
    intro Q noon hn
    simp only [e_M_coldOf_0, e_M_coldOf_1, e_M_coldOf_2, e_M_coldOf_4, e_M_coldOf_5, e_M_coldOf_7, e_M_coldOf_9, e_M_coldOf_12, e_M_coldOf_14, e_M_coldOf_15, e_M_coldOf_16, e_M_coldOf_19, e_M_coldOf_22, e_M_coldOf_23, e_M_coldOf_26, e_M_coldOf_27, e_M_coldOf_30, e_M_coldOf_31, e_M_coldOf_32, e_M_coldOf_35, e_M_coldOf_36, e_M_coldOf_39, e_M_coldOf_42, e_M_coldOf_43, e_M_coldOf_46, e_M_coldOf_47, e_M_coldOf_48, e_M_coldOf_51, e_M_coldOf_54, e_M_coldOf_55, e_M_coldOf_56_c3, e_M_coldOf_56_c4, e_M_coldOf_56_c5, e_M_coldOf_56_c6, e_M_coldOf_56_d, e_M_coldOf_88, e_M_coldOf_90, e_M_coldOf_91, e_M_coldOf_94, e_M_coldOf_95, e_M_coldOf_96, e_M_coldOf_97, e_M_coldOf_98, e_M_coldOf_100, e_M_coldOf_103, e_M_coldOf_105, e_M_coldOf_106, e_M_coldOf_109, e_M_coldOf_110, e_M_coldOf_111, e_M_coldOf_112, e_M_coldOf_115, e_M_coldOf_117, e_M_coldOf_118, e_M_coldOf_120, e_M_coldOf_123, e_M_coldOf_125, e_M_coldOf_126, e_M_coldOf_129, e_M_coldOf_130, e_M_coldOf_131, e_M_coldOf_132, e_M_coldOf_135, e_M_coldOf_137, e_M_coldOf_138, e_M_coldOf_140, sh_o_82, K_M_areNear, pm_opt_some, pm_opt_none, pm_opt_if, Bool.false_eq_true, Bool.not_false, Bool.not_true, if_false, if_true, true_and, and_true, true_or, or_true, not_true_eq_false, not_false_eq_true, q10, q00, q01, q11, pk_v, pk_i, pk_l, pk_r]
    rw [← tail Q noon (frost - ltI I j) hn]
    unfold ltI
    by_cases l1 : I 82 27 < 0
    · simp [l1]
    · by_cases l2 : I 82 27 = nI j
      · have l1' : ¬ nI j < 0 := l2 ▸ l1
        simp [l2, l1']
      · by_cases l3 : nrB (I 82 27) (nI j) = true
        · simp [l1, l2, l3]
        · simp [l1, l2, l3]
  simp only [e_M_coldOf_0, e_M_coldOf_1, e_M_coldOf_2, e_M_coldOf_4, e_M_coldOf_5, e_M_coldOf_7, e_M_coldOf_9, e_M_coldOf_12, e_M_coldOf_15, e_M_coldOf_16, e_M_coldOf_19, e_M_coldOf_22, e_M_coldOf_23, e_M_coldOf_26, e_M_coldOf_27, e_M_coldOf_30, e_M_coldOf_31, e_M_coldOf_32, e_M_coldOf_35, e_M_coldOf_36, e_M_coldOf_39, e_M_coldOf_42, e_M_coldOf_43, e_M_coldOf_46, e_M_coldOf_47, e_M_coldOf_48, e_M_coldOf_50, e_M_coldOf_51, e_M_coldOf_54, e_M_coldOf_55, e_M_coldOf_56_c3, e_M_coldOf_56_c4, e_M_coldOf_56_c5, e_M_coldOf_56_c6, e_M_coldOf_56_d, e_M_coldOf_88, e_M_coldOf_90, e_M_coldOf_91, e_M_coldOf_94, e_M_coldOf_95, e_M_coldOf_96, e_M_coldOf_97, e_M_coldOf_98, e_M_coldOf_100, e_M_coldOf_103, e_M_coldOf_105, e_M_coldOf_106, e_M_coldOf_109, e_M_coldOf_110, e_M_coldOf_111, e_M_coldOf_112, e_M_coldOf_115, e_M_coldOf_117, e_M_coldOf_118, e_M_coldOf_120, e_M_coldOf_123, e_M_coldOf_125, e_M_coldOf_126, e_M_coldOf_129, e_M_coldOf_130, e_M_coldOf_131, e_M_coldOf_132, e_M_coldOf_135, e_M_coldOf_137, e_M_coldOf_138, e_M_coldOf_140, sh_o_82, q24, hod_d, K_M_in, pm_opt_some, pm_opt_none, pm_opt_if, Bool.false_eq_true, Bool.not_false, Bool.not_true, if_false, if_true, true_and, and_true, true_or, or_true, not_true_eq_false, not_false_eq_true, q10, q00, q01, q11, pk_v, pk_i, pk_l, pk_r]
  unfold coldI
  by_cases n1 : hodI hour < 10
  · have n1' : ¬ 10 ≤ hodI hour := Int32.not_le.mpr n1
    simp only [n1', false_and, if_false]
    rw [mid _ _ (Or.inl rfl)]
    simp [n1]
  · have n1' : 10 ≤ hodI hour := Int32.not_lt.mp n1
    by_cases n2 : 15 < hodI hour
    · have n2' : ¬ hodI hour ≤ 15 := Int32.not_le.mpr n2
      simp only [n2', and_false, if_false]
      rw [mid _ _ (Or.inl rfl)]
      simp [n1, n2]
    · have n2' : hodI hour ≤ 15 := Int32.not_lt.mp n2
      simp only [n1', n2', and_self, if_true]
      rw [mid _ _ (Or.inr rfl)]
      simp [n1, n2]
end P33
