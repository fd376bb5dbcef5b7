/-! pairs of calls: image, undo -/
def cpN (n : Nat) (f g : Nat → Int32) : Nat → Int32 := fun k => if k < n then f k else g k
def cpK (I : Nat → Nat → Int32) : Nat → Nat → Int32 := pm_w (pm_w (pm_up (pm_up (pm_up (pm_up (pm_w (pm_w (pm_up (pm_up (pm_up (upC I 15 16 17 (rowT I 3 4 5) 16) 18 (cpN 16 (I 6) (I 18))) 19 (cpN 16 (I 7) (I 19))) 20 (cpN 16 (I 8) (I 20))) 13 4 (I 1 4)) 13 5 (I 1 5)) 21 (cpN 4 (I 9) (I 21))) 22 (cpN 10 (I 10) (I 22))) 23 (cpN 10 (I 11) (I 23))) 24 (cpN 10 (I 12) (I 24))) 13 10 (I 1 10)) 13 11 (I 1 11)
def cpB (I : Nat → Nat → Int32) : Nat → Nat → Int32 := pm_w (pm_w (pm_up (pm_up (pm_up (pm_up (pm_w (pm_w (pm_up (pm_up (pm_up (upC I 3 4 5 (rowT I 15 16 17) 16) 6 (cpN 16 (I 18) (I 6))) 7 (cpN 16 (I 19) (I 7))) 8 (cpN 16 (I 20) (I 8))) 1 4 (I 13 4)) 1 5 (I 13 5)) 9 (cpN 4 (I 21) (I 9))) 10 (cpN 10 (I 22) (I 10))) 11 (cpN 10 (I 23) (I 11))) 12 (cpN 10 (I 24) (I 12))) 1 10 (I 13 10)) 1 11 (I 13 11)
def imM (I : Nat → Nat → Int32) : Nat → Nat → Int32 := pm_up (pm_up (pm_up (pm_up (pm_up (pm_up (pm_up (pm_up (pm_up (pm_up (pm_w (pm_w (pm_w (pm_w (pm_w (I) 82 38 1) 82 39 (I 82 10)) 82 40 (I 82 0)) 82 41 (I 82 1)) 82 42 (I 82 34)) 108 (cpN 16 (I 83) (I 108))) 109 (cpN 16 (I 84) (I 109))) 110 (cpN 16 (I 85) (I 110))) 111 (cpN 16 (I 86) (I 111))) 112 (cpN 16 (I 87) (I 112))) 113 (cpN 16 (I 88) (I 113))) 114 (cpN 4 (I 89) (I 114))) 115 (cpN 10 (I 105) (I 115))) 116 (cpN 10 (I 106) (I 116))) 117 (cpN 10 (I 107) (I 117))
def unM (I : Nat → Nat → Int32) : Nat → Nat → Int32 := pm_up (pm_up (pm_up (pm_up (pm_up (pm_up (pm_up (pm_up (pm_up (pm_up (pm_w (pm_w (pm_w (pm_w (I) 82 10 (I 82 39)) 82 0 (I 82 40)) 82 1 (I 82 41)) 82 34 (I 82 42)) 83 (cpN 16 (I 108) (I 83))) 84 (cpN 16 (I 109) (I 84))) 85 (cpN 16 (I 110) (I 85))) 86 (cpN 16 (I 111) (I 86))) 87 (cpN 16 (I 112) (I 87))) 88 (cpN 16 (I 113) (I 88))) 89 (cpN 4 (I 114) (I 89))) 105 (cpN 10 (I 115) (I 105))) 106 (cpN 10 (I 116) (I 106))) 107 (cpN 10 (I 117) (I 107))
section P44
variable {X : pm_X} {d : Nat} {P Q : pm_O → Prop} {g : List pm_S} {S : List pm_S} {I I' I1 B : Nat → Nat → Int32} {J J' : Nat → Nat → Int64} {j w : Nat} {c a b s n k v l : Int32} {fi : Int32} {p : Nat → Int32} {T U : Nat → T3}
theorem cpy16 {f h : Nat → Int32} : va_cpy f h (0 : Int32).toNatClampNeg (0 : Int32).toNatClampNeg (16 : Int32).toNatClampNeg = cpN 16 f h := by
  funext k
  rw [show (0 : Int32).toNatClampNeg = 0 from rfl, show (16 : Int32).toNatClampNeg = 16 from rfl]
  unfold va_cpy cpN
  simp
theorem cpy10 {f h : Nat → Int32} : va_cpy f h (0 : Int32).toNatClampNeg (0 : Int32).toNatClampNeg (10 : Int32).toNatClampNeg = cpN 10 f h := by
  funext k
  rw [show (0 : Int32).toNatClampNeg = 0 from rfl, show (10 : Int32).toNatClampNeg = 10 from rfl]
  unfold va_cpy cpN
  simp
theorem cpy4 {f h : Nat → Int32} : va_cpy f h (0 : Int32).toNatClampNeg (0 : Int32).toNatClampNeg (4 : Int32).toNatClampNeg = cpN 4 f h := by
  funext k
  rw [show (0 : Int32).toNatClampNeg = 0 from rfl, show (4 : Int32).toNatClampNeg = 4 from rfl]
  unfold va_cpy cpN
  simp
theorem uC_ne {a b c q : Nat} (h1 : ¬ q = a) (h2 : ¬ q = b) (h3 : ¬ q = c) : upC I a b c T 16 q = I q := upC_at h1 h2 h3
theorem uC_a {a b c : Nat} : upC I a b c T 16 a = cpN 16 (fun k => (T k).1) (I a) := by
  funext k
  unfold upC cpN
  by_cases h : k < 16
  · simp [h]
  · simp [h]
theorem uC_b {a b c : Nat} (h : ¬ b = a) : upC I a b c T 16 b = cpN 16 (fun k => (T k).2.1) (I b) := by
  funext k
  unfold upC cpN
  by_cases h1 : k < 16
  · simp [h, h1]
  · simp [h1]
theorem uC_c {a b c : Nat} (h : ¬ c = a) (h2 : ¬ c = b) : upC I a b c T 16 c = cpN 16 (fun k => (T k).2.2) (I c) := by
  funext k
  unfold upC cpN
  by_cases h1 : k < 16
  · simp [h, h1, h2]
  · simp [h1]
theorem K_P_cpK : pm_cl X (d + 5) 61 [.ref 13, .ref 1] (pm_S0 ++ g, I, J) P = P (none, (pm_S0 ++ g, cpK I, J)) := by
  refine K_of (k := 4) (fun d' => ?_)
  have hd : 2 ≤ d' + 4 := by omega
  have c3 : pm_cpo (pm_S0 ++ g) 1 6 0 18 0 16 = true := rfl
  have c4 : pm_cpo (pm_S0 ++ g) 1 7 0 19 0 16 = true := rfl
  have c5 : pm_cpo (pm_S0 ++ g) 1 8 0 20 0 16 = true := rfl
  have c6 : pm_cpo (pm_S0 ++ g) 1 9 0 21 0 4 = true := rfl
  have c7 : pm_cpo (pm_S0 ++ g) 1 10 0 22 0 10 = true := rfl
  have c8 : pm_cpo (pm_S0 ++ g) 1 11 0 23 0 10 = true := rfl
  have c9 : pm_cpo (pm_S0 ++ g) 1 12 0 24 0 10 = true := rfl
  show pm_V X (d' + 4) 61 0 [some (.ref 13), some (.ref 1)] [] (pm_S0 ++ g, I, J) _
  simp only [e_P_copyFrom_0, e_P_copyFrom_1, e_P_copyFrom_4, e_P_copyFrom_5, e_P_copyFrom_8, e_P_copyFrom_11, e_P_copyFrom_12, e_P_copyFrom_15, e_P_copyFrom_16, e_P_copyFrom_17, e_P_copyFrom_20, e_P_copyFrom_21, e_P_copyFrom_23, e_P_copyFrom_26, e_P_copyFrom_27, e_P_copyFrom_30, e_P_copyFrom_31, e_P_copyFrom_32, e_P_copyFrom_35, e_P_copyFrom_36, e_P_copyFrom_38, e_P_copyFrom_41, e_P_copyFrom_42, e_P_copyFrom_45, e_P_copyFrom_46, e_P_copyFrom_47, e_P_copyFrom_50, e_P_copyFrom_51, e_P_copyFrom_53, e_P_copyFrom_56, e_P_copyFrom_57, e_P_copyFrom_58, e_P_copyFrom_61, e_P_copyFrom_64, e_P_copyFrom_65, e_P_copyFrom_66, e_P_copyFrom_69, e_P_copyFrom_72, e_P_copyFrom_73, e_P_copyFrom_76, e_P_copyFrom_77, e_P_copyFrom_78, e_P_copyFrom_81, e_P_copyFrom_82, e_P_copyFrom_83, e_P_copyFrom_86, e_P_copyFrom_87, e_P_copyFrom_90, e_P_copyFrom_91, e_P_copyFrom_92, e_P_copyFrom_95, e_P_copyFrom_96, e_P_copyFrom_98, e_P_copyFrom_101, e_P_copyFrom_102, e_P_copyFrom_105, e_P_copyFrom_106, e_P_copyFrom_107, e_P_copyFrom_110, e_P_copyFrom_111, e_P_copyFrom_113, e_P_copyFrom_116, e_P_copyFrom_117, e_P_copyFrom_120, e_P_copyFrom_121, e_P_copyFrom_122, e_P_copyFrom_125, e_P_copyFrom_126, e_P_copyFrom_128, e_P_copyFrom_131, e_P_copyFrom_132, e_P_copyFrom_133, e_P_copyFrom_136, e_P_copyFrom_139, e_P_copyFrom_140, e_P_copyFrom_141, e_P_copyFrom_144, e_P_copyFrom_147, sh_r_13_0, sh_r_13_1, sh_r_13_2, sh_r_13_3, sh_r_13_6, sh_r_13_7, sh_r_13_8, sh_r_13_9, sh_o_13, sh_r_1_0, sh_r_1_1, sh_r_1_2, sh_r_1_3, sh_r_1_6, sh_r_1_7, sh_r_1_8, sh_r_1_9, sh_o_1, sh_o_14, sh_o_2, K_I_copyFrom (g := g) ice_kept ice_now (by decide), hd, c3, c4, c5, c6, c7, c8, c9, cpy16, cpy10, cpy4, uC_ne, uC_a, uC_b, uC_c, pw_eq, pw_ne, pu_eq, pu_ne, upd_app, Nat.reduceEqDiff, not_false_eq_true, if_false, if_true, pm_opt_some, pm_opt_none, pm_opt_if, Bool.false_eq_true, Bool.not_false, Bool.not_true, if_false, if_true, true_and, and_true, true_or, or_true, not_true_eq_false, not_false_eq_true, q10, q00, q01, q11, pk_v, pk_i, pk_l, pk_r]
  rfl
theorem K_P_cpB : pm_cl X (d + 5) 61 [.ref 1, .ref 13] (pm_S0 ++ g, I, J) P = P (none, (pm_S0 ++ g, cpB I, J)) := by
  refine K_of (k := 4) (fun d' => ?_)
  have hd : 2 ≤ d' + 4 := by omega
  have c3 : pm_cpo (pm_S0 ++ g) 1 18 0 6 0 16 = true := rfl
  have c4 : pm_cpo (pm_S0 ++ g) 1 19 0 7 0 16 = true := rfl
  have c5 : pm_cpo (pm_S0 ++ g) 1 20 0 8 0 16 = true := rfl
  have c6 : pm_cpo (pm_S0 ++ g) 1 21 0 9 0 4 = true := rfl
  have c7 : pm_cpo (pm_S0 ++ g) 1 22 0 10 0 10 = true := rfl
  have c8 : pm_cpo (pm_S0 ++ g) 1 23 0 11 0 10 = true := rfl
  have c9 : pm_cpo (pm_S0 ++ g) 1 24 0 12 0 10 = true := rfl
  show pm_V X (d' + 4) 61 0 [some (.ref 1), some (.ref 13)] [] (pm_S0 ++ g, I, J) _
  simp only [e_P_copyFrom_0, e_P_copyFrom_1, e_P_copyFrom_4, e_P_copyFrom_5, e_P_copyFrom_8, e_P_copyFrom_11, e_P_copyFrom_12, e_P_copyFrom_15, e_P_copyFrom_16, e_P_copyFrom_17, e_P_copyFrom_20, e_P_copyFrom_21, e_P_copyFrom_23, e_P_copyFrom_26, e_P_copyFrom_27, e_P_copyFrom_30, e_P_copyFrom_31, e_P_copyFrom_32, e_P_copyFrom_35, e_P_copyFrom_36, e_P_copyFrom_38, e_P_copyFrom_41, e_P_copyFrom_42, e_P_copyFrom_45, e_P_copyFrom_46, e_P_copyFrom_47, e_P_copyFrom_50, e_P_copyFrom_51, e_P_copyFrom_53, e_P_copyFrom_56, e_P_copyFrom_57, e_P_copyFrom_58, e_P_copyFrom_61, e_P_copyFrom_64, e_P_copyFrom_65, e_P_copyFrom_66, e_P_copyFrom_69, e_P_copyFrom_72, e_P_copyFrom_73, e_P_copyFrom_76, e_P_copyFrom_77, e_P_copyFrom_78, e_P_copyFrom_81, e_P_copyFrom_82, e_P_copyFrom_83, e_P_copyFrom_86, e_P_copyFrom_87, e_P_copyFrom_90, e_P_copyFrom_91, e_P_copyFrom_92, e_P_copyFrom_95, e_P_copyFrom_96, e_P_copyFrom_98, e_P_copyFrom_101, e_P_copyFrom_102, e_P_copyFrom_105, e_P_copyFrom_106, e_P_copyFrom_107, e_P_copyFrom_110, e_P_copyFrom_111, e_P_copyFrom_113, e_P_copyFrom_116, e_P_copyFrom_117, e_P_copyFrom_120, e_P_copyFrom_121, e_P_copyFrom_122, e_P_copyFrom_125, e_P_copyFrom_126, e_P_copyFrom_128, e_P_copyFrom_131, e_P_copyFrom_132, e_P_copyFrom_133, e_P_copyFrom_136, e_P_copyFrom_139, e_P_copyFrom_140, e_P_copyFrom_141, e_P_copyFrom_144, e_P_copyFrom_147, sh_r_1_0, sh_r_1_1, sh_r_1_2, sh_r_1_3, sh_r_1_6, sh_r_1_7, sh_r_1_8, sh_r_1_9, sh_o_1, sh_r_13_0, sh_r_13_1, sh_r_13_2, sh_r_13_3, sh_r_13_6, sh_r_13_7, sh_r_13_8, sh_r_13_9, sh_o_13, sh_o_2, sh_o_14, K_I_copyFrom (g := g) ice_now ice_kept (by decide), hd, c3, c4, c5, c6, c7, c8, c9, cpy16, cpy10, cpy4, uC_ne, uC_a, uC_b, uC_c, pw_eq, pw_ne, pu_eq, pu_ne, upd_app, Nat.reduceEqDiff, not_false_eq_true, if_false, if_true, pm_opt_some, pm_opt_none, pm_opt_if, Bool.false_eq_true, Bool.not_false, Bool.not_true, if_false, if_true, true_and, and_true, true_or, or_true, not_true_eq_false, not_false_eq_true, q10, q00, q01, q11, pk_v, pk_i, pk_l, pk_r]
  rfl
theorem K_M_copy {n a b : Nat} (hn : n ≤ 1000) (ha : (pm_S0 ++ g)[a]? = some (1, n, [])) (hb : (pm_S0 ++ g)[b]? = some (1, n, [])) (hab : ¬ a = b) : pm_cl X (d + 1) 171 [.ref 82, .ref a, .ref b] (pm_S0 ++ g, I, J) P = P (none, (pm_S0 ++ g, pm_up I b (cpN n (I a) (I b)), J)) := by
  have ln : pm_len X (pm_S0 ++ g) b = some (nI n) := by
    unfold pm_len
    rw [hb]
    rfl
  refine K_of (k := 0) (fun d' => ?_)
  have L := fun (Q : pm_O → Prop) => pm_lp0 (fun k => pm_V X d' 171 2 [some (.ref 82), some (.ref a), some (.ref b), some (.int (nI k))] [] (pm_S0 ++ g, pm_up I b (cpN k (I a) (I b)), J) Q) n (by
    intro k hk
    have h1 : (nI n ≤ nI k) = False := by
      rw [nI_le_l (by omega) (by omega)]
      exact eq_false (by omega)
    have bk := bad_nI (k := k) (n := n) hk (by omega)
    have ck := nI_clamp (n := k) (by omega)
    show pm_V X d' 171 2 [some (.ref 82), some (.ref a), some (.ref b), some (.int (nI k))] [] (pm_S0 ++ g, pm_up I b (cpN k (I a) (I b)), J) Q = _
    rw [e_M_copy_2]
    simp only [e_M_copy_0, e_M_copy_1, e_M_copy_3, e_M_copy_4, e_M_copy_5, e_M_copy_8, e_M_copy_9, e_M_copy_10, e_M_copy_11, e_M_copy_12, e_M_copy_13, e_M_copy_14, e_M_copy_17, e_M_copy_20, ln, h1, ia_of ha, ow_of hb, bk, ck, pu_ne hab, pw98, nI_1, pm_opt_some, pm_opt_none, pm_opt_if, Bool.false_eq_true, Bool.not_false, Bool.not_true, if_false, if_true, true_and, and_true, true_or, or_true, not_true_eq_false, not_false_eq_true, q10, q00, q01, q11, pk_v, pk_i, pk_l, pk_r]
    have e : upd (cpN k (I a) (I b)) k (I a k) = cpN (k + 1) (I a) (I b) := by
      funext i
      unfold cpN
      rw [upd_app]
      by_cases q2 : i = k
      · subst q2; simp
      · have : (i < k + 1) = (i < k) := propext (by omega)
        simp [q2, this]
    rw [e]) n 0 (by omega)
  have e0 : cpN 0 (I a) (I b) = I b := by
    funext i
    unfold cpN
    rw [if_neg (Nat.not_lt_zero i)]
  rw [e0, pu_self, nI_0] at L
  show pm_V X d' 171 0 [some (.ref 82), some (.ref a), some (.ref b), none] [] (pm_S0 ++ g, I, J) _
  simp only [e_M_copy_0, e_M_copy_1, e_M_copy_3, e_M_copy_4, e_M_copy_5, e_M_copy_8, e_M_copy_9, e_M_copy_10, e_M_copy_11, e_M_copy_12, e_M_copy_13, e_M_copy_14, e_M_copy_17, e_M_copy_20]
  rw [L, e_M_copy_2]
  simp only [e_M_copy_0, e_M_copy_1, e_M_copy_3, e_M_copy_4, e_M_copy_5, e_M_copy_8, e_M_copy_9, e_M_copy_10, e_M_copy_11, e_M_copy_12, e_M_copy_13, e_M_copy_14, e_M_copy_17, e_M_copy_20, ln, Int32.le_refl, pm_opt_some, pm_opt_none, pm_opt_if, Bool.false_eq_true, Bool.not_false, Bool.not_true, if_false, if_true, true_and, and_true, true_or, or_true, not_true_eq_false, not_false_eq_true, q10, q00, q01, q11, pk_v, pk_i, pk_l, pk_r]
theorem pB_cp {a b c ki kd vl od hc hh ht o a' b' c' ki' kd' vl' od' hc' hh' ht' o' : Nat → Int32} {wc : Int32} (h : pB a b c ki kd vl od hc hh ht o wc) (h4 : o' 4 = o 4) (h10 : o' 10 = o 10) (h11 : o' 11 = o 11) : pB (cpN 16 a a') (cpN 16 b b') (cpN 16 c c') (cpN 16 ki ki') (cpN 16 kd kd') (cpN 16 vl vl') (cpN 4 od od') (cpN 10 hc hc') (cpN 10 hh hh') (cpN 10 ht ht') o' wc := by
  obtain ⟨a1, a2, a3, a4, a5, a6, ⟨n, hn, e, a7⟩, a8⟩ := h
  unfold pB cpN
  refine ⟨fun k hk => ?_, fun k hk => ?_, fun k hk => ?_, fun k hk => ?_, fun k hk => ?_, by rw [h4]; exact a6, ⟨n, hn, by rw [h10]; exact e, fun k hk => ?_⟩, by rw [h11]; exact a8⟩
  · rw [if_pos hk, if_pos hk, if_pos hk]; exact a1 k hk
  · rw [if_pos hk]; exact a2 k hk
  · rw [if_pos hk]; exact a3 k hk
  · rw [if_pos hk]; exact a4 k hk
  · rw [if_pos hk]; exact a5 k hk
  · have h10' : k < 10 := by omega
    rw [if_pos h10', if_pos h10', if_pos h10']
    exact a7 k hk
theorem V_M_image : ∀ (d : Nat) (Q : pm_O → Prop), pm_V X (d + 1) 172 0 [some (.ref 82)] [] (pm_S0 ++ g, I, J) Q = Q (some (.int (I 82 0)), (pm_S0 ++ g, imM I, J)) := by
  intro d Q
  simp only [e_M_image_0, e_M_image_1, e_M_image_2, e_M_image_5, e_M_image_6, e_M_image_7, e_M_image_10, e_M_image_13, e_M_image_14, e_M_image_15, e_M_image_18, e_M_image_21, e_M_image_22, e_M_image_23, e_M_image_26, e_M_image_29, e_M_image_30, e_M_image_31, e_M_image_34, e_M_image_37, e_M_image_38, e_M_image_39, e_M_image_42, e_M_image_43, e_M_image_46, e_M_image_49, e_M_image_50, e_M_image_51, e_M_image_54, e_M_image_55, e_M_image_58, e_M_image_61, e_M_image_62, e_M_image_63, e_M_image_66, e_M_image_67, e_M_image_70, e_M_image_73, e_M_image_74, e_M_image_75, e_M_image_78, e_M_image_79, e_M_image_82, e_M_image_85, e_M_image_86, e_M_image_87, e_M_image_90, e_M_image_91, e_M_image_94, e_M_image_97, e_M_image_98, e_M_image_99, e_M_image_102, e_M_image_103, e_M_image_106, e_M_image_109, e_M_image_110, e_M_image_111, e_M_image_114, e_M_image_115, e_M_image_118, e_M_image_121, e_M_image_122, e_M_image_123, e_M_image_126, e_M_image_127, e_M_image_130, e_M_image_133, e_M_image_134, e_M_image_135, e_M_image_138, e_M_image_139, e_M_image_142, e_M_image_145, e_M_image_146, e_M_image_147, e_M_image_150, e_M_image_151, e_M_image_154, e_M_image_157, e_M_image_158, e_M_image_161, sh_o_82, sh_r_82_2, sh_r_82_3, sh_r_82_4, sh_r_82_5, sh_r_82_6, sh_r_82_7, sh_r_82_8, sh_r_82_35, sh_r_82_36, sh_r_82_37, sh_r_82_43, sh_r_82_44, sh_r_82_45, sh_r_82_46, sh_r_82_47, sh_r_82_48, sh_r_82_49, sh_r_82_50, sh_r_82_51, sh_r_82_52, K_M_copy (g := g) (n := 16) (a := 83) (b := 108) (by decide) rfl rfl (by decide), K_M_copy (g := g) (n := 16) (a := 84) (b := 109) (by decide) rfl rfl (by decide), K_M_copy (g := g) (n := 16) (a := 85) (b := 110) (by decide) rfl rfl (by decide), K_M_copy (g := g) (n := 16) (a := 86) (b := 111) (by decide) rfl rfl (by decide), K_M_copy (g := g) (n := 16) (a := 87) (b := 112) (by decide) rfl rfl (by decide), K_M_copy (g := g) (n := 16) (a := 88) (b := 113) (by decide) rfl rfl (by decide), K_M_copy (g := g) (n := 4) (a := 89) (b := 114) (by decide) rfl rfl (by decide), K_M_copy (g := g) (n := 10) (a := 105) (b := 115) (by decide) rfl rfl (by decide), K_M_copy (g := g) (n := 10) (a := 106) (b := 116) (by decide) rfl rfl (by decide), K_M_copy (g := g) (n := 10) (a := 107) (b := 117) (by decide) rfl rfl (by decide), qz1, pw_eq, pw_ne, pu_eq, pu_ne, upd_app, Nat.reduceEqDiff, not_false_eq_true, if_false, if_true, pm_opt_some, pm_opt_none, pm_opt_if, Bool.false_eq_true, Bool.not_false, Bool.not_true, if_false, if_true, true_and, and_true, true_or, or_true, not_true_eq_false, not_false_eq_true, q10, q00, q01, q11, pk_v, pk_i, pk_l, pk_r]
  rfl
theorem V_M_undo (h : ¬ I 82 38 = 0) : ∀ (d : Nat) (Q : pm_O → Prop), pm_V X (d + 1) 173 0 [some (.ref 82)] [] (pm_S0 ++ g, I, J) Q = Q (some (.int (I 82 40)), (pm_S0 ++ g, unM I, J)) := by
  intro d Q
  simp only [e_M_undo_0, e_M_undo_1, e_M_undo_4, e_M_undo_7, e_M_undo_9, e_M_undo_10, e_M_undo_11, e_M_undo_12, e_M_undo_15, e_M_undo_18, e_M_undo_19, e_M_undo_20, e_M_undo_23, e_M_undo_26, e_M_undo_27, e_M_undo_28, e_M_undo_31, e_M_undo_34, e_M_undo_35, e_M_undo_36, e_M_undo_39, e_M_undo_42, e_M_undo_43, e_M_undo_44, e_M_undo_47, e_M_undo_48, e_M_undo_51, e_M_undo_54, e_M_undo_55, e_M_undo_56, e_M_undo_59, e_M_undo_60, e_M_undo_63, e_M_undo_66, e_M_undo_67, e_M_undo_68, e_M_undo_71, e_M_undo_72, e_M_undo_75, e_M_undo_78, e_M_undo_79, e_M_undo_80, e_M_undo_83, e_M_undo_84, e_M_undo_87, e_M_undo_90, e_M_undo_91, e_M_undo_92, e_M_undo_95, e_M_undo_96, e_M_undo_99, e_M_undo_102, e_M_undo_103, e_M_undo_104, e_M_undo_107, e_M_undo_108, e_M_undo_111, e_M_undo_114, e_M_undo_115, e_M_undo_116, e_M_undo_119, e_M_undo_120, e_M_undo_123, e_M_undo_126, e_M_undo_127, e_M_undo_128, e_M_undo_131, e_M_undo_132, e_M_undo_135, e_M_undo_138, e_M_undo_139, e_M_undo_140, e_M_undo_143, e_M_undo_144, e_M_undo_147, e_M_undo_150, e_M_undo_151, e_M_undo_152, e_M_undo_155, e_M_undo_156, e_M_undo_159, e_M_undo_162, e_M_undo_163, e_M_undo_166, sh_o_82, sh_r_82_2, sh_r_82_3, sh_r_82_4, sh_r_82_5, sh_r_82_6, sh_r_82_7, sh_r_82_8, sh_r_82_35, sh_r_82_36, sh_r_82_37, sh_r_82_43, sh_r_82_44, sh_r_82_45, sh_r_82_46, sh_r_82_47, sh_r_82_48, sh_r_82_49, sh_r_82_50, sh_r_82_51, sh_r_82_52, K_M_copy (g := g) (n := 16) (a := 108) (b := 83) (by decide) rfl rfl (by decide), K_M_copy (g := g) (n := 16) (a := 109) (b := 84) (by decide) rfl rfl (by decide), K_M_copy (g := g) (n := 16) (a := 110) (b := 85) (by decide) rfl rfl (by decide), K_M_copy (g := g) (n := 16) (a := 111) (b := 86) (by decide) rfl rfl (by decide), K_M_copy (g := g) (n := 16) (a := 112) (b := 87) (by decide) rfl rfl (by decide), K_M_copy (g := g) (n := 16) (a := 113) (b := 88) (by decide) rfl rfl (by decide), K_M_copy (g := g) (n := 4) (a := 114) (b := 89) (by decide) rfl rfl (by decide), K_M_copy (g := g) (n := 10) (a := 115) (b := 105) (by decide) rfl rfl (by decide), K_M_copy (g := g) (n := 10) (a := 116) (b := 106) (by decide) rfl rfl (by decide), K_M_copy (g := g) (n := 10) (a := 117) (b := 107) (by decide) rfl rfl (by decide), h, pw_eq, pw_ne, pu_eq, pu_ne, upd_app, Nat.reduceEqDiff, not_false_eq_true, if_false, if_true, pm_opt_some, pm_opt_none, pm_opt_if, Bool.false_eq_true, Bool.not_false, Bool.not_true, if_false, if_true, true_and, and_true, true_or, or_true, not_true_eq_false, not_false_eq_true, q10, q00, q01, q11, pk_v, pk_i, pk_l, pk_r]
  rfl
theorem Pair_image (hR : Rel I J) : Pair X 26 172 [] g I J := by
  obtain ⟨r1, r2, r3, r4, r5, r6, r7, r8⟩ := id hR
  refine ⟨.int (I 1 4), g, pm_w (cpK I) 0 2 1, J, imM (pm_w (cpK I) 0 2 1), J, ?_, Or.inl rfl, rfl, K50 fun d' => ?_, K50 fun d' => ?_⟩
  · unfold REn at r1
    unfold REk at r2
    unfold REo at r3
    refine Rel_upd (L := [0, 13, 15, 16, 17, 18, 19, 20, 21, 22, 23, 24, 82, 108, 109, 110, 111, 112, 113, 114, 115, 116, 117]) hR ?_ ?_ ?_ ?_ ?_ ?_ ?_ (by decide) (by decide) ?_
    · unfold REn imM cpK
      simp only [pw_eq, pw_ne, pu_eq, pu_ne, upd_app, Nat.reduceEqDiff, not_false_eq_true, if_false, if_true, uC_ne, r1, and_self]
    · unfold REk imM cpK
      simp only [pw_eq, pw_ne, pu_eq, pu_ne, upd_app, Nat.reduceEqDiff, not_false_eq_true, if_false, if_true, uC_ne, uC_a, uC_b, uC_c, rowT, r1, r2, r3, and_self]
    · unfold REo imM cpK
      simp only [pw_eq, pw_ne, pu_eq, pu_ne, upd_app, Nat.reduceEqDiff, not_false_eq_true, if_false, if_true, uC_ne, r1, r2, r3, and_self]
    · unfold RBn at r4 ⊢
      unfold pB imM cpK at *
      simp only [pw_eq, pw_ne, pu_eq, pu_ne, upd_app, Nat.reduceEqDiff, not_false_eq_true, if_false, if_true, uC_ne] at *
      exact r4
    · unfold RBk imM cpK
      simp only [pw_eq, pw_ne, pu_eq, pu_ne, upd_app, Nat.reduceEqDiff, not_false_eq_true, if_false, if_true, uC_ne, uC_a, uC_b, uC_c, rowT]
      unfold RBn at r4
      refine pB_cp r4 ?_ ?_ ?_
      · simp only [pw_eq, pw_ne, pu_eq, pu_ne, upd_app, Nat.reduceEqDiff, not_false_eq_true, if_false, if_true]
      · simp only [pw_eq, pw_ne, pu_eq, pu_ne, upd_app, Nat.reduceEqDiff, not_false_eq_true, if_false, if_true]
      · simp only [pw_eq, pw_ne, pu_eq, pu_ne, upd_app, Nat.reduceEqDiff, not_false_eq_true, if_false, if_true]
    · unfold RX at r7 ⊢
      unfold imM cpK
      simp only [pw_eq, pw_ne, pu_eq, pu_ne, upd_app, Nat.reduceEqDiff, not_false_eq_true, if_false, if_true, uC_ne]
      exact ⟨r7.1, r7.2.1, Or.inr trivial, r7.2.2.2⟩
    · intro q hq
      simp only [List.contains_cons, List.contains_nil, Bool.or_false, Bool.or_eq_false_iff, beq_eq_false_iff_ne, ne_eq] at hq
      unfold imM cpK
      simp only [pw_ne, pu_ne, uC_ne, hq, not_false_eq_true]
    · unfold imM cpK
      simp only [pw_eq, pw_ne, pu_eq, pu_ne, upd_app, Nat.reduceEqDiff, not_false_eq_true, if_false, if_true, uC_ne]
  · have e : pm_w (cpK I) 0 2 1 1 4 = I 1 4 := by
      unfold cpK
      simp only [pw_eq, pw_ne, pu_eq, pu_ne, upd_app, Nat.reduceEqDiff, not_false_eq_true, if_false, if_true, uC_ne]
    show pm_V X (d' + 49) 26 0 [some (.ref 0)] [] (pm_S0 ++ g, I, J) _
    simp only [e_B_image_0, e_B_image_1, e_B_image_4, e_B_image_5, e_B_image_8, e_B_image_11, e_B_image_12, e_B_image_13, e_B_image_16, e_B_image_17, e_B_image_20, e_B_image_23, sh_r_0_0, sh_r_0_1, sh_o_0, sh_o_1, sh_o_13, K_P_cpK, e, qz1, pm_opt_some, pm_opt_none, pm_opt_if, Bool.false_eq_true, Bool.not_false, Bool.not_true, if_false, if_true, true_and, and_true, true_or, or_true, not_true_eq_false, not_false_eq_true, q10, q00, q01, q11, pk_v, pk_i, pk_l, pk_r]
  · have e : pm_w (cpK I) 0 2 1 82 0 = I 1 4 := by
      unfold cpK
      simp only [pw_eq, pw_ne, pu_eq, pu_ne, upd_app, Nat.reduceEqDiff, not_false_eq_true, if_false, if_true, uC_ne]
      exact r1.2.1
    show pm_V X (d' + 49) 172 0 [some (.ref 82)] [] (pm_S0 ++ g, _, J) _
    rw [V_M_image, e]
theorem Pair_undo (hR : Rel I J) : Pair X 27 173 [] g I J := by
  obtain ⟨r1, r2, r3, r4, r5, r6, r7, r8⟩ := id hR
  by_cases h : I 0 2 = 0
  · refine Pair_q (v := .int (-3)) hR ⟨I, sfr_rf, K50 fun d' => ?_⟩ (fun I1 h1 hR1 => ⟨I1, sfr_rf, K50 fun d' => ?_⟩)
    · show pm_V X (d' + 49) 27 0 [some (.ref 0)] [] (pm_S0 ++ g, I, J) _
      simp only [e_B_undo_0, e_B_undo_1, e_B_undo_4, e_B_undo_7, e_B_undo_9, e_B_undo_10, e_B_undo_11, e_B_undo_14, e_B_undo_15, e_B_undo_18, e_B_undo_21, e_B_undo_22, e_B_undo_25, e_B_undo_28, sh_o_0, h, pm_opt_some, pm_opt_none, pm_opt_if, Bool.false_eq_true, Bool.not_false, Bool.not_true, if_false, if_true, true_and, and_true, true_or, or_true, not_true_eq_false, not_false_eq_true, q10, q00, q01, q11, pk_v, pk_i, pk_l, pk_r]
    · have e : I1 82 38 = 0 := hR1.2.2.1.2.1.trans (by rw [sfr_at h1 (q := 0) (by decide)]; exact h)
      show pm_V X (d' + 49) 173 0 [some (.ref 82)] [] (pm_S0 ++ g, I1, J) _
      simp only [e_M_undo_0, e_M_undo_1, e_M_undo_4, e_M_undo_7, e_M_undo_9, e_M_undo_10, e_M_undo_11, e_M_undo_12, e_M_undo_15, e_M_undo_18, e_M_undo_19, e_M_undo_20, e_M_undo_23, e_M_undo_26, e_M_undo_27, e_M_undo_28, e_M_undo_31, e_M_undo_34, e_M_undo_35, e_M_undo_36, e_M_undo_39, e_M_undo_42, e_M_undo_43, e_M_undo_44, e_M_undo_47, e_M_undo_48, e_M_undo_51, e_M_undo_54, e_M_undo_55, e_M_undo_56, e_M_undo_59, e_M_undo_60, e_M_undo_63, e_M_undo_66, e_M_undo_67, e_M_undo_68, e_M_undo_71, e_M_undo_72, e_M_undo_75, e_M_undo_78, e_M_undo_79, e_M_undo_80, e_M_undo_83, e_M_undo_84, e_M_undo_87, e_M_undo_90, e_M_undo_91, e_M_undo_92, e_M_undo_95, e_M_undo_96, e_M_undo_99, e_M_undo_102, e_M_undo_103, e_M_undo_104, e_M_undo_107, e_M_undo_108, e_M_undo_111, e_M_undo_114, e_M_undo_115, e_M_undo_116, e_M_undo_119, e_M_undo_120, e_M_undo_123, e_M_undo_126, e_M_undo_127, e_M_undo_128, e_M_undo_131, e_M_undo_132, e_M_undo_135, e_M_undo_138, e_M_undo_139, e_M_undo_140, e_M_undo_143, e_M_undo_144, e_M_undo_147, e_M_undo_150, e_M_undo_151, e_M_undo_152, e_M_undo_155, e_M_undo_156, e_M_undo_159, e_M_undo_162, e_M_undo_163, e_M_undo_166, sh_o_82, e, pm_opt_some, pm_opt_none, pm_opt_if, Bool.false_eq_true, Bool.not_false, Bool.not_true, if_false, if_true, true_and, and_true, true_or, or_true, not_true_eq_false, not_false_eq_true, q10, q00, q01, q11, pk_v, pk_i, pk_l, pk_r]
  · refine ⟨.int (I 13 4), g, cpB I, J, unM (cpB I), J, ?_, Or.inl rfl, rfl, K50 fun d' => ?_, K50 fun d' => ?_⟩
    · unfold REn at r1
      unfold REk at r2
      unfold REo at r3
      refine Rel_upd (L := [1, 3, 4, 5, 6, 7, 8, 9, 10, 11, 12, 82, 83, 84, 85, 86, 87, 88, 89, 105, 106, 107]) hR ?_ ?_ ?_ ?_ ?_ ?_ ?_ (by decide) (by decide) ?_
      · unfold REn unM cpB
        simp only [pw_eq, pw_ne, pu_eq, pu_ne, upd_app, Nat.reduceEqDiff, not_false_eq_true, if_false, if_true, uC_ne, uC_a, uC_b, uC_c, rowT, r1, r2, r3, and_self]
      · unfold REk unM cpB
        simp only [pw_eq, pw_ne, pu_eq, pu_ne, upd_app, Nat.reduceEqDiff, not_false_eq_true, if_false, if_true, uC_ne, r2, and_self]
      · unfold REo unM cpB
        simp only [pw_eq, pw_ne, pu_eq, pu_ne, upd_app, Nat.reduceEqDiff, not_false_eq_true, if_false, if_true, uC_ne, r1, r2, r3, and_self]
      · unfold RBn unM cpB
        simp only [pw_eq, pw_ne, pu_eq, pu_ne, upd_app, Nat.reduceEqDiff, not_false_eq_true, if_false, if_true, uC_ne, uC_a, uC_b, uC_c, rowT]
        unfold RBk at r5
        refine pB_cp r5 ?_ ?_ ?_
        · simp only [pw_eq, pw_ne, pu_eq, pu_ne, upd_app, Nat.reduceEqDiff, not_false_eq_true, if_false, if_true]
        · simp only [pw_eq, pw_ne, pu_eq, pu_ne, upd_app, Nat.reduceEqDiff, not_false_eq_true, if_false, if_true]
        · simp only [pw_eq, pw_ne, pu_eq, pu_ne, upd_app, Nat.reduceEqDiff, not_false_eq_true, if_false, if_true]
      · unfold RBk at r5 ⊢
        unfold pB unM cpB at *
        simp only [pw_eq, pw_ne, pu_eq, pu_ne, upd_app, Nat.reduceEqDiff, not_false_eq_true, if_false, if_true, uC_ne] at *
        exact r5
      · unfold RX at r7 ⊢
        unfold unM cpB
        simp only [pw_eq, pw_ne, pu_eq, pu_ne, upd_app, Nat.reduceEqDiff, not_false_eq_true, if_false, if_true, uC_ne]
        exact r7
      · intro q hq
        simp only [List.contains_cons, List.contains_nil, Bool.or_false, Bool.or_eq_false_iff, beq_eq_false_iff_ne, ne_eq] at hq
        unfold unM cpB
        simp only [pw_ne, pu_ne, uC_ne, hq, not_false_eq_true]
      · unfold unM cpB
        simp only [pw_eq, pw_ne, pu_eq, pu_ne, upd_app, Nat.reduceEqDiff, not_false_eq_true, if_false, if_true, uC_ne]
    · have e : cpB I 1 4 = I 13 4 := by
        unfold cpB
        simp only [pw_eq, pw_ne, pu_eq, pu_ne, upd_app, Nat.reduceEqDiff, not_false_eq_true, if_false, if_true, uC_ne]
      show pm_V X (d' + 49) 27 0 [some (.ref 0)] [] (pm_S0 ++ g, I, J) _
      simp only [e_B_undo_0, e_B_undo_1, e_B_undo_4, e_B_undo_7, e_B_undo_9, e_B_undo_10, e_B_undo_11, e_B_undo_14, e_B_undo_15, e_B_undo_18, e_B_undo_21, e_B_undo_22, e_B_undo_25, e_B_undo_28, sh_r_0_0, sh_r_0_1, sh_o_0, sh_o_1, sh_o_13, h, K_P_cpB, e, pm_opt_some, pm_opt_none, pm_opt_if, Bool.false_eq_true, Bool.not_false, Bool.not_true, if_false, if_true, true_and, and_true, true_or, or_true, not_true_eq_false, not_false_eq_true, q10, q00, q01, q11, pk_v, pk_i, pk_l, pk_r]
    · have e : cpB I 82 40 = I 13 4 := by
        unfold cpB
        simp only [pw_eq, pw_ne, pu_eq, pu_ne, upd_app, Nat.reduceEqDiff, not_false_eq_true, if_false, if_true, uC_ne]
        exact r2.2.1
      have e2 : ¬ cpB I 82 38 = 0 := by
        unfold cpB
        simp only [pw_eq, pw_ne, pu_eq, pu_ne, upd_app, Nat.reduceEqDiff, not_false_eq_true, if_false, if_true, uC_ne]
        rw [r3.2.1]
        exact h
      show pm_V X (d' + 49) 173 0 [some (.ref 82)] [] (pm_S0 ++ g, _, J) _
      rw [V_M_undo e2, e]
end P44
