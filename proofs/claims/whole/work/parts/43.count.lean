/-! pairs of calls: count, trace, taken -/
section P43
variable {X : pm_X} {d : Nat} {P Q : pm_O → Prop} {g : List pm_S} {S : List pm_S} {I I' I1 B : Nat → Nat → Int32} {J J' : Nat → Nat → Int64} {j w : Nat} {c a b s n k v l : Int32} {fi : Int32} {p : Nat → Int32} {T U : Nat → T3}
theorem M_count_pre (h86 : I 86 = I 6) : ∀ (d : Nat) (Q : pm_O → Prop), pm_V X d 185 0 [some (.ref 82), some (.int a), none, none] [] (pm_S0 ++ g, I, J) Q = pm_V X d 185 25 [some (.ref 82), some (.int a), some (.int (kiI I)), some (.int (nI 16))] [] (pm_S0 ++ g, I, J) Q := by
  intro d Q
  have h16 : ((16 : Int32) ≤ nI 16) = True := by decide
  have L := pm_lp (fun k s => pm_V X d 185 4 [some (.ref 82), some (.int a), some (.int s), some (.int (nI k))] [] (pm_S0 ++ g, I, J) Q) (fun k s => s + I 6 k) 16 (by
    intro k s hk
    have h1 : ((16 : Int32) ≤ nI k) = False := by
      rw [show (16 : Int32) = nI 16 from rfl, nI_le_l (by omega) (by omega)]
      exact eq_false (by omega)
    have hb := bad_nI (k := k) (n := 16) hk (by decide)
    have hc := nI_clamp (n := k) (by omega)
    show pm_V X d 185 4 [some (.ref 82), some (.int a), some (.int s), some (.int (nI k))] [] (pm_S0 ++ g, I, J) Q = _
    rw [e_M_count_4]
    simp only [e_M_count_0, e_M_count_1, e_M_count_2, e_M_count_3, e_M_count_5, e_M_count_7, e_M_count_10, e_M_count_11, e_M_count_12, e_M_count_15, e_M_count_16, e_M_count_17, e_M_count_18, e_M_count_19, e_M_count_22, e_M_count_26_c0, e_M_count_26_c1, e_M_count_26_c2, e_M_count_26_c3, e_M_count_26_c4, e_M_count_26_c5, e_M_count_26_d, e_M_count_64, e_M_count_65, e_M_count_68, e_M_count_69, e_M_count_70, e_M_count_73, e_M_count_74, e_M_count_75, e_M_count_78, e_M_count_79, e_M_count_80, e_M_count_83, e_M_count_84, e_M_count_85, e_M_count_88, e_M_count_89, e_M_count_90, e_M_count_91, e_M_count_93, h1, sh_r_82_5, sh_i_86, h86, hb, hc, nI_1, pm_opt_some, pm_opt_none, pm_opt_if, Bool.false_eq_true, Bool.not_false, Bool.not_true, if_false, if_true, true_and, and_true, true_or, or_true, not_true_eq_false, not_false_eq_true, q10, q00, q01, q11, pk_v, pk_i, pk_l, pk_r]) 16 0 0 (by omega)
  rw [nI_0] at L
  simp only [e_M_count_0, e_M_count_1, e_M_count_2, e_M_count_3]
  rw [L, e_M_count_4]
  simp only [e_M_count_5, e_M_count_7, h16, if_true]
  rfl
theorem cnt_pair (hR : Rel I J) (v : Int32) (hB : ∀ (d' : Nat), pm_V X (d' + 49) 31 1 [some (.ref 0), some (.int a)] [.int a] (pm_S0 ++ g, I, J) (fun q => q = (some (.int v), (pm_S0 ++ g, I, J)))) (hM : ∀ (I1 : Nat → Nat → Int32), sfr I I1 → Rel I1 J → ∀ (d' : Nat), pm_V X (d' + 49) 185 26 [some (.ref 82), some (.int a), some (.int (kiI I1)), some (.int (nI 16))] [.int a] (pm_S0 ++ g, I1, J) (fun q => q = (some (.int v), (pm_S0 ++ g, I1, J)))) : Pair X 31 185 [.int a] g I J := by
  refine Pair_q (v := .int v) hR ⟨I, sfr_rf, K50 fun d' => ?_⟩ (fun I1 h1 hR1 => ⟨I1, sfr_rf, K50 fun d' => ?_⟩)
  · show pm_V X (d' + 49) 31 0 [some (.ref 0), some (.int a)] [] (pm_S0 ++ g, I, J) _
    rw [e_B_count_0]
    exact hB d'
  · show pm_V X (d' + 49) 185 0 [some (.ref 82), some (.int a), none, none] [] (pm_S0 ++ g, I1, J) _
    rw [M_count_pre (Rel_86 hR1), e_M_count_25]
    exact hM I1 h1 hR1 d'
theorem Pair_count (hR : Rel I J) : Pair X 31 185 [.int a] g I J := by
  by_cases ha : 0 ≤ a ∧ a ≤ 5
  · obtain ⟨m, hm, rfl⟩ := in_of (m := 5) rfl ha
    match m, hm with
    | 0, _ =>
      refine cnt_pair hR (I 0 7) (fun d' => ?_) (fun I1 h1 hR1 d' => ?_)
      · simp only [e_B_count_0, e_B_count_1_c0, e_B_count_1_c1, e_B_count_1_c2, e_B_count_1_c3, e_B_count_1_c4, e_B_count_1_c5, e_B_count_1_d, e_B_count_40, e_B_count_41, e_B_count_44, e_B_count_45, e_B_count_46, e_B_count_49, e_B_count_52, e_B_count_53, e_B_count_54, e_B_count_57, e_B_count_58, e_B_count_59, e_B_count_62, e_B_count_65, e_B_count_66, e_B_count_67, e_B_count_70, e_B_count_73, e_B_count_74, e_B_count_75, e_B_count_78, e_B_count_79, e_B_count_81, show nI 0 = 0 from rfl, sh_o_0, pm_opt_some, pm_opt_none, pm_opt_if, Bool.false_eq_true, Bool.not_false, Bool.not_true, if_false, if_true, true_and, and_true, true_or, or_true, not_true_eq_false, not_false_eq_true, q10, q00, q01, q11, pk_v, pk_i, pk_l, pk_r]
      · have e : I1 82 9 = I 0 7 := hR1.2.2.1.2.2.2.1.trans (by rw [sfr_at h1 (q := 0) (by decide)])
        simp only [e_M_count_0, e_M_count_1, e_M_count_2, e_M_count_3, e_M_count_4, e_M_count_5, e_M_count_7, e_M_count_10, e_M_count_11, e_M_count_12, e_M_count_15, e_M_count_16, e_M_count_17, e_M_count_18, e_M_count_19, e_M_count_22, e_M_count_26_c0, e_M_count_26_c1, e_M_count_26_c2, e_M_count_26_c3, e_M_count_26_c4, e_M_count_26_c5, e_M_count_26_d, e_M_count_64, e_M_count_65, e_M_count_68, e_M_count_69, e_M_count_70, e_M_count_73, e_M_count_74, e_M_count_75, e_M_count_78, e_M_count_79, e_M_count_80, e_M_count_83, e_M_count_84, e_M_count_85, e_M_count_88, e_M_count_89, e_M_count_90, e_M_count_91, e_M_count_93, show nI 0 = 0 from rfl, sh_o_82, e, pm_opt_some, pm_opt_none, pm_opt_if, Bool.false_eq_true, Bool.not_false, Bool.not_true, if_false, if_true, true_and, and_true, true_or, or_true, not_true_eq_false, not_false_eq_true, q10, q00, q01, q11, pk_v, pk_i, pk_l, pk_r]
    | 1, _ =>
      refine cnt_pair hR (I 1 10) (fun d' => ?_) (fun I1 h1 hR1 d' => ?_)
      · simp only [e_B_count_0, e_B_count_1_c0, e_B_count_1_c1, e_B_count_1_c2, e_B_count_1_c3, e_B_count_1_c4, e_B_count_1_c5, e_B_count_1_d, e_B_count_40, e_B_count_41, e_B_count_44, e_B_count_45, e_B_count_46, e_B_count_49, e_B_count_52, e_B_count_53, e_B_count_54, e_B_count_57, e_B_count_58, e_B_count_59, e_B_count_62, e_B_count_65, e_B_count_66, e_B_count_67, e_B_count_70, e_B_count_73, e_B_count_74, e_B_count_75, e_B_count_78, e_B_count_79, e_B_count_81, show nI 1 = 1 from rfl, sh_r_0_0, sh_o_1, pm_opt_some, pm_opt_none, pm_opt_if, Bool.false_eq_true, Bool.not_false, Bool.not_true, if_false, if_true, true_and, and_true, true_or, or_true, not_true_eq_false, not_false_eq_true, q10, q00, q01, q11, pk_v, pk_i, pk_l, pk_r]
      · have e : I1 82 34 = I 1 10 := hR1.1.2.2.2.1.trans (by rw [sfr_at h1 (q := 1) (by decide)])
        simp only [e_M_count_0, e_M_count_1, e_M_count_2, e_M_count_3, e_M_count_4, e_M_count_5, e_M_count_7, e_M_count_10, e_M_count_11, e_M_count_12, e_M_count_15, e_M_count_16, e_M_count_17, e_M_count_18, e_M_count_19, e_M_count_22, e_M_count_26_c0, e_M_count_26_c1, e_M_count_26_c2, e_M_count_26_c3, e_M_count_26_c4, e_M_count_26_c5, e_M_count_26_d, e_M_count_64, e_M_count_65, e_M_count_68, e_M_count_69, e_M_count_70, e_M_count_73, e_M_count_74, e_M_count_75, e_M_count_78, e_M_count_79, e_M_count_80, e_M_count_83, e_M_count_84, e_M_count_85, e_M_count_88, e_M_count_89, e_M_count_90, e_M_count_91, e_M_count_93, show nI 1 = 1 from rfl, sh_o_82, e, pm_opt_some, pm_opt_none, pm_opt_if, Bool.false_eq_true, Bool.not_false, Bool.not_true, if_false, if_true, true_and, and_true, true_or, or_true, not_true_eq_false, not_false_eq_true, q10, q00, q01, q11, pk_v, pk_i, pk_l, pk_r]
    | 2, _ =>
      refine cnt_pair hR (I 0 4) (fun d' => ?_) (fun I1 h1 hR1 d' => ?_)
      · simp only [e_B_count_0, e_B_count_1_c0, e_B_count_1_c1, e_B_count_1_c2, e_B_count_1_c3, e_B_count_1_c4, e_B_count_1_c5, e_B_count_1_d, e_B_count_40, e_B_count_41, e_B_count_44, e_B_count_45, e_B_count_46, e_B_count_49, e_B_count_52, e_B_count_53, e_B_count_54, e_B_count_57, e_B_count_58, e_B_count_59, e_B_count_62, e_B_count_65, e_B_count_66, e_B_count_67, e_B_count_70, e_B_count_73, e_B_count_74, e_B_count_75, e_B_count_78, e_B_count_79, e_B_count_81, show nI 2 = 2 from rfl, sh_o_0, pm_opt_some, pm_opt_none, pm_opt_if, Bool.false_eq_true, Bool.not_false, Bool.not_true, if_false, if_true, true_and, and_true, true_or, or_true, not_true_eq_false, not_false_eq_true, q10, q00, q01, q11, pk_v, pk_i, pk_l, pk_r]
      · have e : I1 82 11 = I 0 4 := hR1.2.2.1.2.2.1.trans (by rw [sfr_at h1 (q := 0) (by decide)])
        simp only [e_M_count_0, e_M_count_1, e_M_count_2, e_M_count_3, e_M_count_4, e_M_count_5, e_M_count_7, e_M_count_10, e_M_count_11, e_M_count_12, e_M_count_15, e_M_count_16, e_M_count_17, e_M_count_18, e_M_count_19, e_M_count_22, e_M_count_26_c0, e_M_count_26_c1, e_M_count_26_c2, e_M_count_26_c3, e_M_count_26_c4, e_M_count_26_c5, e_M_count_26_d, e_M_count_64, e_M_count_65, e_M_count_68, e_M_count_69, e_M_count_70, e_M_count_73, e_M_count_74, e_M_count_75, e_M_count_78, e_M_count_79, e_M_count_80, e_M_count_83, e_M_count_84, e_M_count_85, e_M_count_88, e_M_count_89, e_M_count_90, e_M_count_91, e_M_count_93, show nI 2 = 2 from rfl, sh_o_82, e, pm_opt_some, pm_opt_none, pm_opt_if, Bool.false_eq_true, Bool.not_false, Bool.not_true, if_false, if_true, true_and, and_true, true_or, or_true, not_true_eq_false, not_false_eq_true, q10, q00, q01, q11, pk_v, pk_i, pk_l, pk_r]
    | 3, _ =>
      refine cnt_pair hR (I 1 4) (fun d' => ?_) (fun I1 h1 hR1 d' => ?_)
      · simp only [e_B_count_0, e_B_count_1_c0, e_B_count_1_c1, e_B_count_1_c2, e_B_count_1_c3, e_B_count_1_c4, e_B_count_1_c5, e_B_count_1_d, e_B_count_40, e_B_count_41, e_B_count_44, e_B_count_45, e_B_count_46, e_B_count_49, e_B_count_52, e_B_count_53, e_B_count_54, e_B_count_57, e_B_count_58, e_B_count_59, e_B_count_62, e_B_count_65, e_B_count_66, e_B_count_67, e_B_count_70, e_B_count_73, e_B_count_74, e_B_count_75, e_B_count_78, e_B_count_79, e_B_count_81, show nI 3 = 3 from rfl, sh_r_0_0, sh_o_1, pm_opt_some, pm_opt_none, pm_opt_if, Bool.false_eq_true, Bool.not_false, Bool.not_true, if_false, if_true, true_and, and_true, true_or, or_true, not_true_eq_false, not_false_eq_true, q10, q00, q01, q11, pk_v, pk_i, pk_l, pk_r]
      · have e : I1 82 0 = I 1 4 := hR1.1.2.1.trans (by rw [sfr_at h1 (q := 1) (by decide)])
        simp only [e_M_count_0, e_M_count_1, e_M_count_2, e_M_count_3, e_M_count_4, e_M_count_5, e_M_count_7, e_M_count_10, e_M_count_11, e_M_count_12, e_M_count_15, e_M_count_16, e_M_count_17, e_M_count_18, e_M_count_19, e_M_count_22, e_M_count_26_c0, e_M_count_26_c1, e_M_count_26_c2, e_M_count_26_c3, e_M_count_26_c4, e_M_count_26_c5, e_M_count_26_d, e_M_count_64, e_M_count_65, e_M_count_68, e_M_count_69, e_M_count_70, e_M_count_73, e_M_count_74, e_M_count_75, e_M_count_78, e_M_count_79, e_M_count_80, e_M_count_83, e_M_count_84, e_M_count_85, e_M_count_88, e_M_count_89, e_M_count_90, e_M_count_91, e_M_count_93, show nI 3 = 3 from rfl, sh_o_82, e, pm_opt_some, pm_opt_none, pm_opt_if, Bool.false_eq_true, Bool.not_false, Bool.not_true, if_false, if_true, true_and, and_true, true_or, or_true, not_true_eq_false, not_false_eq_true, q10, q00, q01, q11, pk_v, pk_i, pk_l, pk_r]
    | 4, _ =>
      refine cnt_pair hR (I 33 1) (fun d' => ?_) (fun I1 h1 hR1 d' => ?_)
      · simp only [e_B_count_0, e_B_count_1_c0, e_B_count_1_c1, e_B_count_1_c2, e_B_count_1_c3, e_B_count_1_c4, e_B_count_1_c5, e_B_count_1_d, e_B_count_40, e_B_count_41, e_B_count_44, e_B_count_45, e_B_count_46, e_B_count_49, e_B_count_52, e_B_count_53, e_B_count_54, e_B_count_57, e_B_count_58, e_B_count_59, e_B_count_62, e_B_count_65, e_B_count_66, e_B_count_67, e_B_count_70, e_B_count_73, e_B_count_74, e_B_count_75, e_B_count_78, e_B_count_79, e_B_count_81, show nI 4 = 4 from rfl, sh_r_0_9, sh_o_33, pm_opt_some, pm_opt_none, pm_opt_if, Bool.false_eq_true, Bool.not_false, Bool.not_true, if_false, if_true, true_and, and_true, true_or, or_true, not_true_eq_false, not_false_eq_true, q10, q00, q01, q11, pk_v, pk_i, pk_l, pk_r]
      · have e : I1 82 53 = I 33 1 := hR1.2.2.1.2.2.2.2.trans (by rw [sfr_at h1 (q := 33) (by decide)])
        simp only [e_M_count_0, e_M_count_1, e_M_count_2, e_M_count_3, e_M_count_4, e_M_count_5, e_M_count_7, e_M_count_10, e_M_count_11, e_M_count_12, e_M_count_15, e_M_count_16, e_M_count_17, e_M_count_18, e_M_count_19, e_M_count_22, e_M_count_26_c0, e_M_count_26_c1, e_M_count_26_c2, e_M_count_26_c3, e_M_count_26_c4, e_M_count_26_c5, e_M_count_26_d, e_M_count_64, e_M_count_65, e_M_count_68, e_M_count_69, e_M_count_70, e_M_count_73, e_M_count_74, e_M_count_75, e_M_count_78, e_M_count_79, e_M_count_80, e_M_count_83, e_M_count_84, e_M_count_85, e_M_count_88, e_M_count_89, e_M_count_90, e_M_count_91, e_M_count_93, show nI 4 = 4 from rfl, sh_o_82, e, pm_opt_some, pm_opt_none, pm_opt_if, Bool.false_eq_true, Bool.not_false, Bool.not_true, if_false, if_true, true_and, and_true, true_or, or_true, not_true_eq_false, not_false_eq_true, q10, q00, q01, q11, pk_v, pk_i, pk_l, pk_r]
    | 5, _ =>
      refine cnt_pair hR (kiI I) (fun d' => ?_) (fun I1 h1 hR1 d' => ?_)
      · simp only [e_B_count_0, e_B_count_1_c0, e_B_count_1_c1, e_B_count_1_c2, e_B_count_1_c3, e_B_count_1_c4, e_B_count_1_c5, e_B_count_1_d, e_B_count_40, e_B_count_41, e_B_count_44, e_B_count_45, e_B_count_46, e_B_count_49, e_B_count_52, e_B_count_53, e_B_count_54, e_B_count_57, e_B_count_58, e_B_count_59, e_B_count_62, e_B_count_65, e_B_count_66, e_B_count_67, e_B_count_70, e_B_count_73, e_B_count_74, e_B_count_75, e_B_count_78, e_B_count_79, e_B_count_81, show nI 5 = 5 from rfl, sh_o_0, K_B_childrenInAll, pm_opt_some, pm_opt_none, pm_opt_if, Bool.false_eq_true, Bool.not_false, Bool.not_true, if_false, if_true, true_and, and_true, true_or, or_true, not_true_eq_false, not_false_eq_true, q10, q00, q01, q11, pk_v, pk_i, pk_l, pk_r]
      · have e : kiI I1 = kiI I := by unfold kiI; rw [sfr_at h1 (q := 6) (by decide)]
        simp only [e_M_count_0, e_M_count_1, e_M_count_2, e_M_count_3, e_M_count_4, e_M_count_5, e_M_count_7, e_M_count_10, e_M_count_11, e_M_count_12, e_M_count_15, e_M_count_16, e_M_count_17, e_M_count_18, e_M_count_19, e_M_count_22, e_M_count_26_c0, e_M_count_26_c1, e_M_count_26_c2, e_M_count_26_c3, e_M_count_26_c4, e_M_count_26_c5, e_M_count_26_d, e_M_count_64, e_M_count_65, e_M_count_68, e_M_count_69, e_M_count_70, e_M_count_73, e_M_count_74, e_M_count_75, e_M_count_78, e_M_count_79, e_M_count_80, e_M_count_83, e_M_count_84, e_M_count_85, e_M_count_88, e_M_count_89, e_M_count_90, e_M_count_91, e_M_count_93, show nI 5 = 5 from rfl, e, pm_opt_some, pm_opt_none, pm_opt_if, Bool.false_eq_true, Bool.not_false, Bool.not_true, if_false, if_true, true_and, and_true, true_or, or_true, not_true_eq_false, not_false_eq_true, q10, q00, q01, q11, pk_v, pk_i, pk_l, pk_r]
  · have hx : a.toInt < 0 ∨ 5 < a.toInt := by
      rw [i_le, i_le, k0, show (5 : Int32).toInt = 5 from rfl] at ha
      omega
    refine cnt_pair hR (-2) (fun d' => ?_) (fun I1 h1 hR1 d' => ?_)
    · rw [e_B_count_1_d hx]
      simp only [e_B_count_79, e_B_count_81]
    · rw [e_M_count_26_d hx]
      simp only [e_M_count_91, e_M_count_93]
theorem Pair_trace (hR : Rel I J) : Pair X 29 183 [.int a] g I J := by
  obtain ⟨r, hr, er⟩ := hR.2.2.2.2.2.2.1.2.2.2
  have h20 : (20 : Int32).toInt = 20 := rfl
  have h19 : (19 : Int32).toInt = 19 := rfl
  have e1 : (minI (nI r) 20 - 1).toInt = min (r : Int) 20 - 1 := by
    have e : (minI (nI r) 20).toInt = min (r : Int) 20 := by rw [minI_toInt, nI_toInt (by omega), h20]
    rw [i_sub (by rw [e, k1]; omega) (by rw [e, k1]; omega), e, k1]
  have hq : (0 ≤ a ∧ a ≤ minI (I 33 1) 20 - 1) ↔ ((0 ≤ a ∧ a ≤ 19) ∧ ¬ I 33 1 ≤ a) := by
    rw [er]
    simp only [i_le, e1, k0, h19, nI_toInt (show r < 2 ^ 31 by omega)]
    omega
  by_cases h : 0 ≤ a ∧ a ≤ minI (I 33 1) 20 - 1
  · have h' := hq.mp h
    obtain ⟨j, hj, rfl⟩ := in_of (m := 19) rfl h'.1
    have bj := bad_nI (k := j) (n := 20) (by omega) (by decide)
    have cj := nI_clamp (n := j) (by omega)
    refine Pair_q (v := .int (I 34 j)) hR ⟨I, sfr_rf, K50 fun d' => ?_⟩ (fun I1 h1 hR1 => ⟨I1, sfr_rf, K50 fun d' => ?_⟩)
    · have hd : 2 ≤ d' + 49 := by omega
      show pm_V X (d' + 49) 29 0 [some (.ref 0), some (.int (nI j))] [] (pm_S0 ++ g, I, J) _
      simp only [e_B_trace_0, e_B_trace_1, e_B_trace_2, e_B_trace_3, e_B_trace_6, e_B_trace_9, e_B_trace_11, e_B_trace_14, e_B_trace_15, e_B_trace_16, e_B_trace_19, e_B_trace_22, e_B_trace_23, e_B_trace_24, e_B_trace_25, e_B_trace_28, e_B_trace_31, e_B_trace_32, e_B_trace_33, K_B_isWithin, sh_r_0_9, sh_o_33, sh_r_33_0, sh_i_34, hd, minI_d, eq_true h, bj, cj, pm_opt_some, pm_opt_none, pm_opt_if, Bool.false_eq_true, Bool.not_false, Bool.not_true, if_false, if_true, true_and, and_true, true_or, or_true, not_true_eq_false, not_false_eq_true, q10, q00, q01, q11, pk_v, pk_i, pk_l, pk_r]
    · have e : I1 82 53 = I 33 1 := hR1.2.2.1.2.2.2.2.trans (by rw [sfr_at h1 (q := 33) (by decide)])
      have e2 : I1 118 = I 34 := hR1.2.2.1.1.2.trans (sfr_at h1 (by decide))
      show pm_V X (d' + 49) 183 0 [some (.ref 82), some (.int (nI j))] [] (pm_S0 ++ g, I1, J) _
      simp only [e_M_trace_0, e_M_trace_1, e_M_trace_2, e_M_trace_3, e_M_trace_5, e_M_trace_8, e_M_trace_11, e_M_trace_12, e_M_trace_13, e_M_trace_16, e_M_trace_19, e_M_trace_20, e_M_trace_23, e_M_trace_24, e_M_trace_25, e_M_trace_28, e_M_trace_29, sh_o_82, K_M_in, eq_true h'.1, eq_false h'.2, e, e2, sh_r_82_54, sh_i_118, bj, cj, pm_opt_some, pm_opt_none, pm_opt_if, Bool.false_eq_true, Bool.not_false, Bool.not_true, if_false, if_true, true_and, and_true, true_or, or_true, not_true_eq_false, not_false_eq_true, q10, q00, q01, q11, pk_v, pk_i, pk_l, pk_r]
  · refine Pair_q (v := .int (-1)) hR ⟨I, sfr_rf, K50 fun d' => ?_⟩ (fun I1 h1 hR1 => ⟨I1, sfr_rf, K50 fun d' => ?_⟩)
    · have hd : 2 ≤ d' + 49 := by omega
      show pm_V X (d' + 49) 29 0 [some (.ref 0), some (.int a)] [] (pm_S0 ++ g, I, J) _
      simp only [e_B_trace_0, e_B_trace_1, e_B_trace_2, e_B_trace_3, e_B_trace_6, e_B_trace_9, e_B_trace_11, e_B_trace_14, e_B_trace_15, e_B_trace_16, e_B_trace_19, e_B_trace_22, e_B_trace_23, e_B_trace_24, e_B_trace_25, e_B_trace_28, e_B_trace_31, e_B_trace_32, e_B_trace_33, K_B_isWithin, sh_r_0_9, sh_o_33, hd, minI_d, eq_false h, pm_opt_some, pm_opt_none, pm_opt_if, Bool.false_eq_true, Bool.not_false, Bool.not_true, if_false, if_true, true_and, and_true, true_or, or_true, not_true_eq_false, not_false_eq_true, q10, q00, q01, q11, pk_v, pk_i, pk_l, pk_r]
    · have e : I1 82 53 = I 33 1 := hR1.2.2.1.2.2.2.2.trans (by rw [sfr_at h1 (q := 33) (by decide)])
      show pm_V X (d' + 49) 183 0 [some (.ref 82), some (.int a)] [] (pm_S0 ++ g, I1, J) _
      by_cases q1 : 0 ≤ a ∧ a ≤ 19
      · have q2 : I 33 1 ≤ a := by
          by_cases q2 : I 33 1 ≤ a
          · exact q2
          · exact absurd (hq.mpr ⟨q1, q2⟩) h
        simp only [e_M_trace_0, e_M_trace_1, e_M_trace_2, e_M_trace_3, e_M_trace_5, e_M_trace_8, e_M_trace_11, e_M_trace_12, e_M_trace_13, e_M_trace_16, e_M_trace_19, e_M_trace_20, e_M_trace_23, e_M_trace_24, e_M_trace_25, e_M_trace_28, e_M_trace_29, sh_o_82, K_M_in, eq_true q1, eq_true q2, e, pm_opt_some, pm_opt_none, pm_opt_if, Bool.false_eq_true, Bool.not_false, Bool.not_true, if_false, if_true, true_and, and_true, true_or, or_true, not_true_eq_false, not_false_eq_true, q10, q00, q01, q11, pk_v, pk_i, pk_l, pk_r]
      · simp only [e_M_trace_0, e_M_trace_1, e_M_trace_2, e_M_trace_3, e_M_trace_5, e_M_trace_8, e_M_trace_11, e_M_trace_12, e_M_trace_13, e_M_trace_16, e_M_trace_19, e_M_trace_20, e_M_trace_23, e_M_trace_24, e_M_trace_25, e_M_trace_28, e_M_trace_29, sh_o_82, K_M_in, eq_false q1, pm_opt_some, pm_opt_none, pm_opt_if, Bool.false_eq_true, Bool.not_false, Bool.not_true, if_false, if_true, true_and, and_true, true_or, or_true, not_true_eq_false, not_false_eq_true, q10, q00, q01, q11, pk_v, pk_i, pk_l, pk_r]
/-- is a KIND another, or under it -/
def unI (m : Nat) (w : Int32) : Bool := decide (w = 0) || decide (nI m = w) || (decide (w = 2) && decide (m = 5)) || (decide (w = 3) && decide (m = 6))
theorem S0_len : pm_S0.length = 123 := rfl
theorem out_none (hg : g.length ≤ 600) {a : Nat} (ha : 1000000 ≤ a) : (pm_S0 ++ g)[a]? = none := by
  refine List.getElem?_eq_none ?_
  rw [List.length_append, S0_len]
  omega
theorem ia_K (hg : g.length ≤ 600) {x : Nat} (hx : x < 7) : pm_ia X (pm_S0 ++ g) I 1000001 (nI x) = some (pm_fK x) := by
  unfold pm_ia
  rw [out_none hg (by omega)]
  show (if pm_bad (nI x) 7 = true then none else some (pm_fK (nI x).toNatClampNeg)) = _
  rw [bad_nI hx (by decide), nI_clamp (by omega)]
  rfl
theorem U_step {x i : Nat} {kd w : Int32} (hg : g.length ≤ 600) (hx : x < 7) (hi : i < 7) : ∀ (d : Nat) (Q : pm_O → Prop), pm_V X (d + 1) 40 4 [some (.int kd), some (.int w), some (.int (nI x)), some (.int (nI i))] [] (pm_S0 ++ g, I, J) Q = if nI x = w then Q (some (.int 1), (pm_S0 ++ g, I, J)) else pm_V X (d + 1) 40 4 [some (.int kd), some (.int w), some (.int (pm_fK x)), some (.int (nI (i + 1)))] [] (pm_S0 ++ g, I, J) Q := by
  intro d Q
  have h7 : ((7 : Int32) ≤ nI i) = False := by
    rw [show (7 : Int32) = nI 7 from rfl, nI_le_l (by omega) (by omega)]
    exact eq_false (by omega)
  have hk : ((0 : Int32) ≤ nI x ∧ nI x ≤ 6) = True := eq_true ⟨nI_pos' (by omega), by rw [show (6 : Int32) = nI 6 from rfl, nI_leI (by omega) (by decide)]; omega⟩
  have hf := ia_K (X := X) (I := I) hg hx
  rw [e_B_isUnder_4]
  simp only [e_B_isUnder_0, e_B_isUnder_1, e_B_isUnder_2, e_B_isUnder_3, e_B_isUnder_5, e_B_isUnder_7, e_B_isUnder_10, e_B_isUnder_11, e_B_isUnder_14, e_B_isUnder_17, e_B_isUnder_18, e_B_isUnder_19, e_B_isUnder_22, e_B_isUnder_23, e_B_isUnder_24, e_B_isUnder_27, e_B_isUnder_28, e_B_isUnder_29, e_B_isUnder_30, e_B_isUnder_33, e_B_isUnder_36, e_B_isUnder_37, K_B_isKind, h7, hk, hf, nI_1, pm_opt_some, pm_opt_none, pm_opt_if, Bool.false_eq_true, Bool.not_false, Bool.not_true, if_false, if_true, true_and, and_true, true_or, or_true, not_true_eq_false, not_false_eq_true, q10, q00, q01, q11, pk_v, pk_i, pk_l, pk_r]
  by_cases q : nI x = w
  · simp only [q, pm_opt_some, pm_opt_none, pm_opt_if, Bool.false_eq_true, Bool.not_false, Bool.not_true, if_false, if_true, true_and, and_true, true_or, or_true, not_true_eq_false, not_false_eq_true, q10, q00, q01, q11, pk_v, pk_i, pk_l, pk_r]
  · simp only [q, pm_opt_some, pm_opt_none, pm_opt_if, Bool.false_eq_true, Bool.not_false, Bool.not_true, if_false, if_true, true_and, and_true, true_or, or_true, not_true_eq_false, not_false_eq_true, q10, q00, q01, q11, pk_v, pk_i, pk_l, pk_r]
theorem U_end {i : Nat} {kd w : Int32} (hi : i < 7) : ∀ (d : Nat) (Q : pm_O → Prop), pm_V X (d + 1) 40 4 [some (.int kd), some (.int w), some (.int (-1)), some (.int (nI i))] [] (pm_S0 ++ g, I, J) Q = Q (some (.int 0), (pm_S0 ++ g, I, J)) := by
  intro d Q
  have h7 : ((7 : Int32) ≤ nI i) = False := by
    rw [show (7 : Int32) = nI 7 from rfl, nI_le_l (by omega) (by omega)]
    exact eq_false (by omega)
  have hk : ¬ ((0 : Int32) ≤ -1 ∧ (-1 : Int32) ≤ 6) := by decide
  rw [e_B_isUnder_4]
  simp only [e_B_isUnder_5, e_B_isUnder_7, e_B_isUnder_10, e_B_isUnder_11, K_B_isKind, h7, if_false]
  rw [if_neg hk]
  simp only [e_B_isUnder_0, e_B_isUnder_1, e_B_isUnder_2, e_B_isUnder_3, e_B_isUnder_5, e_B_isUnder_7, e_B_isUnder_10, e_B_isUnder_11, e_B_isUnder_14, e_B_isUnder_17, e_B_isUnder_18, e_B_isUnder_19, e_B_isUnder_22, e_B_isUnder_23, e_B_isUnder_24, e_B_isUnder_27, e_B_isUnder_28, e_B_isUnder_29, e_B_isUnder_30, e_B_isUnder_33, e_B_isUnder_36, e_B_isUnder_37, pm_opt_some, pm_opt_none, pm_opt_if, Bool.false_eq_true, Bool.not_false, Bool.not_true, if_false, if_true, true_and, and_true, true_or, or_true, not_true_eq_false, not_false_eq_true, q10, q00, q01, q11, pk_v, pk_i, pk_l, pk_r]
theorem V_B_isUnder {m : Nat} (hg : g.length ≤ 600) (hm : m ≤ 6) {w : Int32} : ∀ (d : Nat) (Q : pm_O → Prop), pm_V X (d + 1) 40 0 [some (.int (nI m)), some (.int w), none, none] [] (pm_S0 ++ g, I, J) Q = if unI m w = true then Q (some (.int 1), (pm_S0 ++ g, I, J)) else Q (some (.int 0), (pm_S0 ++ g, I, J)) := by
  intro d Q
  simp only [e_B_isUnder_0, e_B_isUnder_1, e_B_isUnder_2, e_B_isUnder_3]
  rw [show (0 : Int32) = nI 0 from rfl]
  have f0 : pm_fK 0 = -1 := rfl
  have f1 : pm_fK 1 = nI 0 := rfl
  have f2 : pm_fK 2 = nI 0 := rfl
  have f3 : pm_fK 3 = nI 0 := rfl
  have f4 : pm_fK 4 = nI 0 := rfl
  have f5 : pm_fK 5 = nI 2 := rfl
  have f6 : pm_fK 6 = nI 3 := rfl
  have g0 : (w = 0) = (nI 0 = w) := propext ⟨fun z => z.symm, fun z => z.symm⟩
  have g2 : (w = 2) = (nI 2 = w) := propext ⟨fun z => z.symm, fun z => z.symm⟩
  have g3 : (w = 3) = (nI 3 = w) := propext ⟨fun z => z.symm, fun z => z.symm⟩
  unfold unI
  simp only [g0, g2, g3]
  match m, hm with
  | 0, _ =>
    rw [U_step (x := 0) (i := 0) hg (by decide) (by decide), f0, U_end (i := 1) (by decide)]
    by_cases q0 : nI 0 = w
    · simp [q0]
    · simp [q0] <;> exact Iff.rfl
  | 1, _ =>
    rw [U_step (x := 1) (i := 0) hg (by decide) (by decide), f1, U_step (x := 0) (i := 1) hg (by decide) (by decide), f0, U_end (i := 2) (by decide)]
    by_cases q1 : nI 1 = w
    · simp [q1]
    · skip
      by_cases q0 : nI 0 = w
      · simp [q1, q0]
      · simp [q1, q0] <;> exact Iff.rfl
  | 2, _ =>
    rw [U_step (x := 2) (i := 0) hg (by decide) (by decide), f2, U_step (x := 0) (i := 1) hg (by decide) (by decide), f0, U_end (i := 2) (by decide)]
    by_cases q2 : nI 2 = w
    · simp [q2]
    · skip
      by_cases q0 : nI 0 = w
      · simp [q2, q0]
      · simp [q2, q0] <;> exact Iff.rfl
  | 3, _ =>
    rw [U_step (x := 3) (i := 0) hg (by decide) (by decide), f3, U_step (x := 0) (i := 1) hg (by decide) (by decide), f0, U_end (i := 2) (by decide)]
    by_cases q3 : nI 3 = w
    · simp [q3]
    · skip
      by_cases q0 : nI 0 = w
      · simp [q3, q0]
      · simp [q3, q0] <;> exact Iff.rfl
  | 4, _ =>
    rw [U_step (x := 4) (i := 0) hg (by decide) (by decide), f4, U_step (x := 0) (i := 1) hg (by decide) (by decide), f0, U_end (i := 2) (by decide)]
    by_cases q4 : nI 4 = w
    · simp [q4]
    · skip
      by_cases q0 : nI 0 = w
      · simp [q4, q0]
      · simp [q4, q0] <;> exact Iff.rfl
  | 5, _ =>
    rw [U_step (x := 5) (i := 0) hg (by decide) (by decide), f5, U_step (x := 2) (i := 1) hg (by decide) (by decide), f2, U_step (x := 0) (i := 2) hg (by decide) (by decide), f0, U_end (i := 3) (by decide)]
    by_cases q5 : nI 5 = w
    · simp [q5]
    · skip
      by_cases q2 : nI 2 = w
      · simp [q5, q2]
      · skip
        by_cases q0 : nI 0 = w
        · simp [q5, q2, q0]
        · simp [q5, q2, q0] <;> exact Iff.rfl
  | 6, _ =>
    rw [U_step (x := 6) (i := 0) hg (by decide) (by decide), f6, U_step (x := 3) (i := 1) hg (by decide) (by decide), f3, U_step (x := 0) (i := 2) hg (by decide) (by decide), f0, U_end (i := 3) (by decide)]
    by_cases q6 : nI 6 = w
    · simp [q6]
    · skip
      by_cases q3 : nI 3 = w
      · simp [q6, q3]
      · skip
        by_cases q0 : nI 0 = w
        · simp [q6, q3, q0]
        · simp [q6, q3, q0] <;> exact Iff.rfl
theorem K_B_isUnder {m : Nat} (hg : g.length ≤ 600) (hm : m ≤ 6) {w : Int32} : pm_cl X (d + 2) 40 [.int (nI m), .int w] (pm_S0 ++ g, I, J) P = if unI m w = true then P (some (.int 1), (pm_S0 ++ g, I, J)) else P (some (.int 0), (pm_S0 ++ g, I, J)) := by
  refine K_if (k := 1) (fun hq d' => ?_) (fun hq d' => ?_)
  · show pm_V X (d' + 1) 40 0 [some (.int (nI m)), some (.int w), none, none] [] (pm_S0 ++ g, I, J) _
    rw [V_B_isUnder hg hm, if_pos hq]
  · show pm_V X (d' + 1) 40 0 [some (.int (nI m)), some (.int w), none, none] [] (pm_S0 ++ g, I, J) _
    rw [V_B_isUnder hg hm, if_neg hq]
theorem Pair_taken (hg : g.length ≤ 600) (hR : Rel I J) : Pair X 30 184 [.int c, .int k] g I J := by
  by_cases hk : 0 ≤ k ∧ k ≤ 6
  · by_cases hc : 0 ≤ c ∧ c ≤ 15
    · obtain ⟨j, hj, rfl⟩ := in_of (m := 15) rfl hc
      have bj := bad_nI (k := j) (n := 16) (by omega) (by decide)
      have cj := nI_clamp (n := j) (by omega)
      obtain ⟨m, hm, em⟩ := hR.2.2.2.1.2.2.1 j (by omega)
      by_cases q : unI m k = true
      · refine Pair_q (v := .int (nI m)) hR ⟨I, sfr_rf, K50 fun d' => ?_⟩ (fun I1 h1 hR1 => ⟨I1, sfr_rf, K50 fun d' => ?_⟩)
        · show pm_V X (d' + 49) 30 0 [some (.ref 0), some (.int (nI j)), some (.int k)] [] (pm_S0 ++ g, I, J) _
          simp only [e_B_taken_0, e_B_taken_1, e_B_taken_4, e_B_taken_7, e_B_taken_9, e_B_taken_10, e_B_taken_11, e_B_taken_14, e_B_taken_17, e_B_taken_19, e_B_taken_20, e_B_taken_21, e_B_taken_24, e_B_taken_27, e_B_taken_28, e_B_taken_29, e_B_taken_30, e_B_taken_33, e_B_taken_36, e_B_taken_37, e_B_taken_40, e_B_taken_43, e_B_taken_44, e_B_taken_45, e_B_taken_48, e_B_taken_50, K_B_isKind, K_B_isCell, eq_true hk, eq_true hc, sh_r_0_0, sh_r_1_2, sh_i_7, bj, cj, em, K_B_isUnder hg hm, q, pm_opt_some, pm_opt_none, pm_opt_if, Bool.false_eq_true, Bool.not_false, Bool.not_true, if_false, if_true, true_and, and_true, true_or, or_true, not_true_eq_false, not_false_eq_true, q10, q00, q01, q11, pk_v, pk_i, pk_l, pk_r]
        · have e : I1 87 j = nI m := by rw [hR1.1.1.2.2.2.2.1, sfr_at h1 (q := 7) (by decide)]; exact em
          have h5 : (nI m = 5) = (m = 5) := propext (nI_eq (a := m) (b := 5) (by omega) (by decide))
          have h6 : (nI m = 6) = (m = 6) := propext (nI_eq (a := m) (b := 6) (by omega) (by decide))
          show pm_V X (d' + 49) 184 0 [some (.ref 82), some (.int (nI j)), some (.int k), none] [] (pm_S0 ++ g, I1, J) _
          simp only [e_M_taken_0, e_M_taken_1, e_M_taken_2, e_M_taken_3, e_M_taken_5, e_M_taken_8, e_M_taken_11, e_M_taken_13, e_M_taken_14, e_M_taken_15, e_M_taken_16, e_M_taken_19, e_M_taken_22, e_M_taken_24, e_M_taken_25, e_M_taken_26, e_M_taken_29, e_M_taken_30, e_M_taken_31, e_M_taken_32, e_M_taken_33, e_M_taken_36, e_M_taken_37, e_M_taken_38, e_M_taken_41, e_M_taken_42, e_M_taken_43, e_M_taken_46, e_M_taken_47, e_M_taken_48, e_M_taken_51, e_M_taken_52, e_M_taken_53, e_M_taken_56, e_M_taken_57, e_M_taken_59, e_M_taken_62, e_M_taken_63, e_M_taken_66, e_M_taken_68, sh_o_82, K_M_in, K_M_isCell, eq_true hk, eq_true hc, sh_r_82_6, sh_i_87, bj, cj, e, h5, h6, pm_opt_some, pm_opt_none, pm_opt_if, Bool.false_eq_true, Bool.not_false, Bool.not_true, if_false, if_true, true_and, and_true, true_or, or_true, not_true_eq_false, not_false_eq_true, q10, q00, q01, q11, pk_v, pk_i, pk_l, pk_r]
          unfold unI at q
          simp only [Bool.or_eq_true, Bool.and_eq_true, decide_eq_true_eq] at q
          by_cases q1 : k = 0
          · simp [q1]
          · by_cases q2 : nI m = k
            · simp [q1, q2]
            · by_cases q3 : k = 2 ∧ m = 5
              · simp [q2, q3]
              · by_cases q4 : k = 3 ∧ m = 6
                · simp [q2, q4]
                · simp [q1, q2] at q
                  rcases q with q | q
                  · exact absurd q q3
                  · exact absurd q q4
      · refine Pair_q (v := .int (-12)) hR ⟨I, sfr_rf, K50 fun d' => ?_⟩ (fun I1 h1 hR1 => ⟨I1, sfr_rf, K50 fun d' => ?_⟩)
        · show pm_V X (d' + 49) 30 0 [some (.ref 0), some (.int (nI j)), some (.int k)] [] (pm_S0 ++ g, I, J) _
          simp only [e_B_taken_0, e_B_taken_1, e_B_taken_4, e_B_taken_7, e_B_taken_9, e_B_taken_10, e_B_taken_11, e_B_taken_14, e_B_taken_17, e_B_taken_19, e_B_taken_20, e_B_taken_21, e_B_taken_24, e_B_taken_27, e_B_taken_28, e_B_taken_29, e_B_taken_30, e_B_taken_33, e_B_taken_36, e_B_taken_37, e_B_taken_40, e_B_taken_43, e_B_taken_44, e_B_taken_45, e_B_taken_48, e_B_taken_50, K_B_isKind, K_B_isCell, eq_true hk, eq_true hc, sh_r_0_0, sh_r_1_2, sh_i_7, bj, cj, em, K_B_isUnder hg hm, q, pm_opt_some, pm_opt_none, pm_opt_if, Bool.false_eq_true, Bool.not_false, Bool.not_true, if_false, if_true, true_and, and_true, true_or, or_true, not_true_eq_false, not_false_eq_true, q10, q00, q01, q11, pk_v, pk_i, pk_l, pk_r]
        · have e : I1 87 j = nI m := by rw [hR1.1.1.2.2.2.2.1, sfr_at h1 (q := 7) (by decide)]; exact em
          have h5 : (nI m = 5) = (m = 5) := propext (nI_eq (a := m) (b := 5) (by omega) (by decide))
          have h6 : (nI m = 6) = (m = 6) := propext (nI_eq (a := m) (b := 6) (by omega) (by decide))
          show pm_V X (d' + 49) 184 0 [some (.ref 82), some (.int (nI j)), some (.int k), none] [] (pm_S0 ++ g, I1, J) _
          simp only [e_M_taken_0, e_M_taken_1, e_M_taken_2, e_M_taken_3, e_M_taken_5, e_M_taken_8, e_M_taken_11, e_M_taken_13, e_M_taken_14, e_M_taken_15, e_M_taken_16, e_M_taken_19, e_M_taken_22, e_M_taken_24, e_M_taken_25, e_M_taken_26, e_M_taken_29, e_M_taken_30, e_M_taken_31, e_M_taken_32, e_M_taken_33, e_M_taken_36, e_M_taken_37, e_M_taken_38, e_M_taken_41, e_M_taken_42, e_M_taken_43, e_M_taken_46, e_M_taken_47, e_M_taken_48, e_M_taken_51, e_M_taken_52, e_M_taken_53, e_M_taken_56, e_M_taken_57, e_M_taken_59, e_M_taken_62, e_M_taken_63, e_M_taken_66, e_M_taken_68, sh_o_82, K_M_in, K_M_isCell, eq_true hk, eq_true hc, sh_r_82_6, sh_i_87, bj, cj, e, h5, h6, pm_opt_some, pm_opt_none, pm_opt_if, Bool.false_eq_true, Bool.not_false, Bool.not_true, if_false, if_true, true_and, and_true, true_or, or_true, not_true_eq_false, not_false_eq_true, q10, q00, q01, q11, pk_v, pk_i, pk_l, pk_r]
          unfold unI at q
          simp only [Bool.or_eq_true, Bool.and_eq_true, decide_eq_true_eq, not_or, not_and] at q
          obtain ⟨⟨⟨q1, q2⟩, q3⟩, q4⟩ := q
          by_cases w2 : k = 2
          · have q3' := q3 w2
            simp [q2, q3', w2, show ¬ (2 : Int32) = 0 by decide, show ¬ (2 : Int32) = 3 by decide] at q2 ⊢
            exact fun z => absurd z q2
          · by_cases w3 : k = 3
            · have q4' := q4 w3
              simp [q1, q2, w2, q4', w3] at q2 ⊢
              exact fun z => absurd z q2
            · simp [q1, q2, w2, w3]
    · refine Pair_q (v := .int (-11)) hR ⟨I, sfr_rf, K50 fun d' => ?_⟩ (fun I1 h1 hR1 => ⟨I1, sfr_rf, K50 fun d' => ?_⟩)
      · show pm_V X (d' + 49) 30 0 [some (.ref 0), some (.int c), some (.int k)] [] (pm_S0 ++ g, I, J) _
        simp only [e_B_taken_0, e_B_taken_1, e_B_taken_4, e_B_taken_7, e_B_taken_9, e_B_taken_10, e_B_taken_11, e_B_taken_14, e_B_taken_17, e_B_taken_19, e_B_taken_20, e_B_taken_21, e_B_taken_24, e_B_taken_27, e_B_taken_28, e_B_taken_29, e_B_taken_30, e_B_taken_33, e_B_taken_36, e_B_taken_37, e_B_taken_40, e_B_taken_43, e_B_taken_44, e_B_taken_45, e_B_taken_48, e_B_taken_50, K_B_isKind, K_B_isCell, eq_true hk, eq_false hc, pm_opt_some, pm_opt_none, pm_opt_if, Bool.false_eq_true, Bool.not_false, Bool.not_true, if_false, if_true, true_and, and_true, true_or, or_true, not_true_eq_false, not_false_eq_true, q10, q00, q01, q11, pk_v, pk_i, pk_l, pk_r]
      · show pm_V X (d' + 49) 184 0 [some (.ref 82), some (.int c), some (.int k), none] [] (pm_S0 ++ g, I1, J) _
        simp only [e_M_taken_0, e_M_taken_1, e_M_taken_2, e_M_taken_3, e_M_taken_5, e_M_taken_8, e_M_taken_11, e_M_taken_13, e_M_taken_14, e_M_taken_15, e_M_taken_16, e_M_taken_19, e_M_taken_22, e_M_taken_24, e_M_taken_25, e_M_taken_26, e_M_taken_29, e_M_taken_30, e_M_taken_31, e_M_taken_32, e_M_taken_33, e_M_taken_36, e_M_taken_37, e_M_taken_38, e_M_taken_41, e_M_taken_42, e_M_taken_43, e_M_taken_46, e_M_taken_47, e_M_taken_48, e_M_taken_51, e_M_taken_52, e_M_taken_53, e_M_taken_56, e_M_taken_57, e_M_taken_59, e_M_taken_62, e_M_taken_63, e_M_taken_66, e_M_taken_68, sh_o_82, K_M_in, K_M_isCell, eq_true hk, eq_false hc, pm_opt_some, pm_opt_none, pm_opt_if, Bool.false_eq_true, Bool.not_false, Bool.not_true, if_false, if_true, true_and, and_true, true_or, or_true, not_true_eq_false, not_false_eq_true, q10, q00, q01, q11, pk_v, pk_i, pk_l, pk_r]
  · exact Pair_q (v := .int (-2)) hR ⟨I, sfr_rf, K50 fun d' => by { show pm_V X (d' + 49) 30 0 [some (.ref 0), some (.int c), some (.int k)] [] (pm_S0 ++ g, I, J) _; simp only [e_B_taken_0, e_B_taken_1, e_B_taken_4, e_B_taken_7, e_B_taken_9, e_B_taken_10, e_B_taken_11, e_B_taken_14, e_B_taken_17, e_B_taken_19, e_B_taken_20, e_B_taken_21, e_B_taken_24, e_B_taken_27, e_B_taken_28, e_B_taken_29, e_B_taken_30, e_B_taken_33, e_B_taken_36, e_B_taken_37, e_B_taken_40, e_B_taken_43, e_B_taken_44, e_B_taken_45, e_B_taken_48, e_B_taken_50, K_B_isCell, K_B_isWithin, K_B_isTape, K_B_isKind, eq_false hk, pm_opt_some, pm_opt_none, pm_opt_if, Bool.false_eq_true, Bool.not_false, Bool.not_true, if_false, if_true, true_and, and_true, true_or, or_true, not_true_eq_false, not_false_eq_true, q10, q00, q01, q11, pk_v, pk_i, pk_l, pk_r] }⟩ (fun I1 h1 hR1 => ⟨I1, sfr_rf, K50 fun d' => by { show pm_V X (d' + 49) 184 0 [some (.ref 82), some (.int c), some (.int k), none] [] (pm_S0 ++ g, I1, J) _; simp only [e_M_taken_0, e_M_taken_1, e_M_taken_2, e_M_taken_3, e_M_taken_5, e_M_taken_8, e_M_taken_11, e_M_taken_13, e_M_taken_14, e_M_taken_15, e_M_taken_16, e_M_taken_19, e_M_taken_22, e_M_taken_24, e_M_taken_25, e_M_taken_26, e_M_taken_29, e_M_taken_30, e_M_taken_31, e_M_taken_32, e_M_taken_33, e_M_taken_36, e_M_taken_37, e_M_taken_38, e_M_taken_41, e_M_taken_42, e_M_taken_43, e_M_taken_46, e_M_taken_47, e_M_taken_48, e_M_taken_51, e_M_taken_52, e_M_taken_53, e_M_taken_56, e_M_taken_57, e_M_taken_59, e_M_taken_62, e_M_taken_63, e_M_taken_66, e_M_taken_68, sh_o_82, K_M_isCell, K_M_in, K_M_isTape, eq_false hk, pm_opt_some, pm_opt_none, pm_opt_if, Bool.false_eq_true, Bool.not_false, Bool.not_true, if_false, if_true, true_and, and_true, true_or, or_true, not_true_eq_false, not_false_eq_true, q10, q00, q01, q11, pk_v, pk_i, pk_l, pk_r] }⟩)
end P43
