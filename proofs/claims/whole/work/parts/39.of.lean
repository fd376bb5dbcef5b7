/-! pairs of calls: of, fall, rope, blows -/
def faG (T : Nat → T3) (b : Int32) (f : Nat → Int32) : Int32 := fld (fun k s => if 0 < f k ∧ ¬ beI (thT (T k)) (ldI f k) b = true then s ||| 1 <<< (nI k &&& 31) else s) 0 16 0
/-- an answer of 1 or 0 -/
def b2i (c : Bool) : Int32 := if c = true then 1 else 0
section P39
variable {X : pm_X} {d : Nat} {P Q : pm_O → Prop} {g : List pm_S} {S : List pm_S} {I I' B : Nat → Nat → Int32} {J J' : Nat → Nat → Int64} {j w : Nat} {c a b s n k v l : Int32} {fi : Int32} {p : Nat → Int32} {T : Nat → T3}
theorem if_ans {c : Bool} {H : pm_H} : if c = true then ((some (Value.int 1), H) : pm_O) = (some (Value.int (b2i c)), H) else ((some (Value.int 0), H) : pm_O) = (some (Value.int (b2i c)), H) := by
  cases c
  · exact rfl
  · exact rfl
theorem Rel_WXm (hR : Rel I J) : WX I (hwI I) (I 82 10) := by
  rw [hR.1.2.2.2.2]
  exact Rel_WX hR
theorem Rel_86 (hR : Rel I J) : I 86 = I 6 := hR.1.1.2.2.2.1
theorem Rel_s (h : sfr I I') (hR : Rel I J) : Rel I' J := Rel_sfr h (fun _ _ => rfl) hR
theorem sfr_102 {F : Nat → Int32} : sfr I (pm_up I 102 F) := sfr_of (L := [102]) (by decide) (pm_fr_up (by decide))
theorem sfr_bI (h : sfr I I') : bI I' = bI I := by
  unfold bI
  rw [sfr_hw h, sfr_wb h hwI_is]
theorem sfr_row0 (h : sfr I I') : rowT I' 3 4 5 = rowT I 3 4 5 := by
  unfold rowT
  simp only [sfr_at h (q := 3) (by decide), sfr_at h (q := 4) (by decide), sfr_at h (q := 5) (by decide)]
theorem faI_G : faI I (I 6) = faG (rowT I 3 4 5) (bI I) (I 6) := rfl
theorem tab6 {b : Int32} (h : ¬ (0 ≤ b ∧ b ≤ 6)) : b.toInt < 0 ∨ 6 < b.toInt := by
  rw [i_le, i_le, k0, show (6 : Int32).toInt = 6 from rfl] at h
  omega
theorem of_pre {I1 : Nat → Nat → Int32} (hc : 0 ≤ nI j ∧ nI j ≤ 15) (hR1 : Rel I1 J) : pm_V X (d + 49) 149 0 [some (.ref 82), some (.int (nI j)), some (.int b)] [] (pm_S0 ++ g, I1, J) Q = pm_V X (d + 49) 149 19 [some (.ref 82), some (.int (nI j)), some (.int b)] [] (pm_S0 ++ g, MS (pm_up (nL I1) 102 (fun i => if i < 16 then ldI (I1 6) i else nL I1 102 i)) (rowT I1 3 4 5) (I1 1 4) (I1 98), J) Q := by
  have hRB : Rel (nL I1) J := Rel_s nL_sfr hR1
  have lay := fun (d : Nat) (P : pm_O → Prop) (T : Nat → T3) (n : Int32) (p : Nat → Int32) => K_M_layL (X := X) (d := d) (P := P) (g := g) (J := J) (T := T) (n := n) (p := p) (m := 4) (by decide) (Rel_86 hRB)
  simp only [ldC_4, show nI 4 = 4 from rfl, sfr_at (nL_sfr (I := I1)) (q := 6) (by decide)] at lay
  simp only [e_M_of_0, e_M_of_1, e_M_of_2, e_M_of_5, e_M_of_8, e_M_of_9, e_M_of_10, e_M_of_11, e_M_of_14, e_M_of_15, e_M_of_16, e_M_of_20_c0, e_M_of_20_c1, e_M_of_20_c2, e_M_of_20_c3, e_M_of_20_c4, e_M_of_20_c5, e_M_of_20_c6, e_M_of_20_d, e_M_of_64, e_M_of_65, e_M_of_68, e_M_of_69, e_M_of_70, e_M_of_71, e_M_of_72, e_M_of_75, e_M_of_76, e_M_of_77, e_M_of_78, e_M_of_79, e_M_of_82, e_M_of_83, e_M_of_84, e_M_of_85, e_M_of_86, e_M_of_87, e_M_of_90, e_M_of_91, e_M_of_92, e_M_of_95, e_M_of_96, e_M_of_97, e_M_of_98, e_M_of_99, e_M_of_100, e_M_of_101, e_M_of_104, e_M_of_105, e_M_of_106, e_M_of_109, e_M_of_112, e_M_of_113, e_M_of_116, e_M_of_117, e_M_of_118, e_M_of_119, e_M_of_122, e_M_of_123, e_M_of_124, e_M_of_125, e_M_of_126, sh_o_82, K_M_isCell, eq_true hc, K_M_asIs hR1, lay, pm_opt_some, pm_opt_none, pm_opt_if, Bool.false_eq_true, Bool.not_false, Bool.not_true, if_false, if_true, true_and, and_true, true_or, or_true, not_true_eq_false, not_false_eq_true, q10, q00, q01, q11, pk_v, pk_i, pk_l, pk_r]
theorem of_fin (I1 : Nat → Nat → Int32) : sfr I1 (MS (pm_up (nL I1) 102 (fun i => if i < 16 then ldI (I1 6) i else nL I1 102 i)) (rowT I1 3 4 5) (I1 1 4) (I1 98)) := sfr_tr (sfr_tr nL_sfr sfr_102) MS_sfr
theorem Pair_of_0 (hR : Rel I J) (hc : 0 ≤ nI j ∧ nI j ≤ 15) (hj' : j < 16) : Pair X 2 149 [.int (nI j), .int (nI 0)] g I J := by
  have bj := bad_nI (k := j) (n := 16) hj' (by decide)
  have cj := nI_clamp (n := j) (by omega)
  have hok := WX_ok (Rel_WX hR)
  refine Pair_q (v := .int (I 3 j)) hR ⟨I, sfr_rf, K50 fun d' => ?_⟩ (fun I1 h1 hR1 => ⟨_, of_fin I1, K50 fun d' => ?_⟩)
  · show pm_V X (d' + 49) 2 0 [some (.ref 0), some (.int (nI j)), some (.int (nI 0))] [] (pm_S0 ++ g, I, J) _
    simp only [e_B_of_0, e_B_of_1, e_B_of_4, e_B_of_7, e_B_of_8, e_B_of_9, e_B_of_10_c0, e_B_of_10_c1, e_B_of_10_c2, e_B_of_10_c3, e_B_of_10_c4, e_B_of_10_c5, e_B_of_10_c6, e_B_of_10_d, e_B_of_52, e_B_of_53, e_B_of_56, e_B_of_59, e_B_of_62, e_B_of_63, e_B_of_64, e_B_of_65, e_B_of_66, e_B_of_69, e_B_of_72, e_B_of_75, e_B_of_76, e_B_of_77, e_B_of_78, e_B_of_79, e_B_of_82, e_B_of_85, e_B_of_88, e_B_of_89, e_B_of_90, e_B_of_91, e_B_of_92, e_B_of_95, e_B_of_98, e_B_of_99, e_B_of_102, e_B_of_103, e_B_of_104, e_B_of_107, e_B_of_110, e_B_of_111, e_B_of_114, e_B_of_115, e_B_of_116, e_B_of_117, e_B_of_120, e_B_of_123, e_B_of_124, e_B_of_127, e_B_of_128, e_B_of_131, e_B_of_134, e_B_of_135, e_B_of_138, e_B_of_141, e_B_of_144, e_B_of_145, e_B_of_148, e_B_of_149, e_B_of_150, e_B_of_151, e_B_of_154, e_B_of_157, e_B_of_158, e_B_of_159, e_B_of_160, e_B_of_161, show nI 0 = 0 from rfl, K_B_isCell, eq_true hc, sh_r_0_0, sh_r_1_0, sh_r_2_0, sh_i_3, bj, cj, pm_opt_some, pm_opt_none, pm_opt_if, Bool.false_eq_true, Bool.not_false, Bool.not_true, if_false, if_true, true_and, and_true, true_or, or_true, not_true_eq_false, not_false_eq_true, q10, q00, q01, q11, pk_v, pk_i, pk_l, pk_r]
  · show pm_V X (d' + 49) 149 0 [some (.ref 82), some (.int (nI j)), some (.int (nI 0))] [] (pm_S0 ++ g, I1, J) _
    rw [of_pre hc hR1]
    simp only [e_M_of_0, e_M_of_1, e_M_of_2, e_M_of_5, e_M_of_8, e_M_of_9, e_M_of_10, e_M_of_11, e_M_of_14, e_M_of_15, e_M_of_16, e_M_of_19, e_M_of_20_c0, e_M_of_20_c1, e_M_of_20_c2, e_M_of_20_c3, e_M_of_20_c4, e_M_of_20_c5, e_M_of_20_c6, e_M_of_20_d, e_M_of_64, e_M_of_65, e_M_of_68, e_M_of_69, e_M_of_70, e_M_of_71, e_M_of_72, e_M_of_75, e_M_of_76, e_M_of_77, e_M_of_78, e_M_of_79, e_M_of_82, e_M_of_83, e_M_of_84, e_M_of_85, e_M_of_86, e_M_of_87, e_M_of_90, e_M_of_91, e_M_of_92, e_M_of_95, e_M_of_96, e_M_of_97, e_M_of_98, e_M_of_99, e_M_of_100, e_M_of_101, e_M_of_104, e_M_of_105, e_M_of_106, e_M_of_109, e_M_of_112, e_M_of_113, e_M_of_116, e_M_of_117, e_M_of_118, e_M_of_119, e_M_of_122, e_M_of_123, e_M_of_124, e_M_of_125, e_M_of_126, show nI 0 = 0 from rfl, sh_r_82_2, sh_i_83, bj, cj, MS_rd (q := 83) (by decide), pu_ne (show ¬ 83 = 102 by decide), sfr_at nL_sfr (q := 83) (by decide), hR1.1.1.1, sfr_at h1 (q := 3) (by decide), pm_opt_some, pm_opt_none, pm_opt_if, Bool.false_eq_true, Bool.not_false, Bool.not_true, if_false, if_true, true_and, and_true, true_or, or_true, not_true_eq_false, not_false_eq_true, q10, q00, q01, q11, pk_v, pk_i, pk_l, pk_r]
theorem Pair_of_1 (hR : Rel I J) (hc : 0 ≤ nI j ∧ nI j ≤ 15) (hj' : j < 16) : Pair X 2 149 [.int (nI j), .int (nI 1)] g I J := by
  have bj := bad_nI (k := j) (n := 16) hj' (by decide)
  have cj := nI_clamp (n := j) (by omega)
  have hok := WX_ok (Rel_WX hR)
  refine Pair_q (v := .int (I 4 j)) hR ⟨I, sfr_rf, K50 fun d' => ?_⟩ (fun I1 h1 hR1 => ⟨_, of_fin I1, K50 fun d' => ?_⟩)
  · show pm_V X (d' + 49) 2 0 [some (.ref 0), some (.int (nI j)), some (.int (nI 1))] [] (pm_S0 ++ g, I, J) _
    simp only [e_B_of_0, e_B_of_1, e_B_of_4, e_B_of_7, e_B_of_8, e_B_of_9, e_B_of_10_c0, e_B_of_10_c1, e_B_of_10_c2, e_B_of_10_c3, e_B_of_10_c4, e_B_of_10_c5, e_B_of_10_c6, e_B_of_10_d, e_B_of_52, e_B_of_53, e_B_of_56, e_B_of_59, e_B_of_62, e_B_of_63, e_B_of_64, e_B_of_65, e_B_of_66, e_B_of_69, e_B_of_72, e_B_of_75, e_B_of_76, e_B_of_77, e_B_of_78, e_B_of_79, e_B_of_82, e_B_of_85, e_B_of_88, e_B_of_89, e_B_of_90, e_B_of_91, e_B_of_92, e_B_of_95, e_B_of_98, e_B_of_99, e_B_of_102, e_B_of_103, e_B_of_104, e_B_of_107, e_B_of_110, e_B_of_111, e_B_of_114, e_B_of_115, e_B_of_116, e_B_of_117, e_B_of_120, e_B_of_123, e_B_of_124, e_B_of_127, e_B_of_128, e_B_of_131, e_B_of_134, e_B_of_135, e_B_of_138, e_B_of_141, e_B_of_144, e_B_of_145, e_B_of_148, e_B_of_149, e_B_of_150, e_B_of_151, e_B_of_154, e_B_of_157, e_B_of_158, e_B_of_159, e_B_of_160, e_B_of_161, show nI 1 = 1 from rfl, K_B_isCell, eq_true hc, sh_r_0_0, sh_r_1_0, sh_r_2_1, sh_i_4, bj, cj, pm_opt_some, pm_opt_none, pm_opt_if, Bool.false_eq_true, Bool.not_false, Bool.not_true, if_false, if_true, true_and, and_true, true_or, or_true, not_true_eq_false, not_false_eq_true, q10, q00, q01, q11, pk_v, pk_i, pk_l, pk_r]
  · show pm_V X (d' + 49) 149 0 [some (.ref 82), some (.int (nI j)), some (.int (nI 1))] [] (pm_S0 ++ g, I1, J) _
    rw [of_pre hc hR1]
    simp only [e_M_of_0, e_M_of_1, e_M_of_2, e_M_of_5, e_M_of_8, e_M_of_9, e_M_of_10, e_M_of_11, e_M_of_14, e_M_of_15, e_M_of_16, e_M_of_19, e_M_of_20_c0, e_M_of_20_c1, e_M_of_20_c2, e_M_of_20_c3, e_M_of_20_c4, e_M_of_20_c5, e_M_of_20_c6, e_M_of_20_d, e_M_of_64, e_M_of_65, e_M_of_68, e_M_of_69, e_M_of_70, e_M_of_71, e_M_of_72, e_M_of_75, e_M_of_76, e_M_of_77, e_M_of_78, e_M_of_79, e_M_of_82, e_M_of_83, e_M_of_84, e_M_of_85, e_M_of_86, e_M_of_87, e_M_of_90, e_M_of_91, e_M_of_92, e_M_of_95, e_M_of_96, e_M_of_97, e_M_of_98, e_M_of_99, e_M_of_100, e_M_of_101, e_M_of_104, e_M_of_105, e_M_of_106, e_M_of_109, e_M_of_112, e_M_of_113, e_M_of_116, e_M_of_117, e_M_of_118, e_M_of_119, e_M_of_122, e_M_of_123, e_M_of_124, e_M_of_125, e_M_of_126, show nI 1 = 1 from rfl, sh_r_82_3, sh_i_84, bj, cj, MS_rd (q := 84) (by decide), pu_ne (show ¬ 84 = 102 by decide), sfr_at nL_sfr (q := 84) (by decide), hR1.1.1.2.1, sfr_at h1 (q := 4) (by decide), pm_opt_some, pm_opt_none, pm_opt_if, Bool.false_eq_true, Bool.not_false, Bool.not_true, if_false, if_true, true_and, and_true, true_or, or_true, not_true_eq_false, not_false_eq_true, q10, q00, q01, q11, pk_v, pk_i, pk_l, pk_r]
theorem Pair_of_2 (hR : Rel I J) (hc : 0 ≤ nI j ∧ nI j ≤ 15) (hj' : j < 16) : Pair X 2 149 [.int (nI j), .int (nI 2)] g I J := by
  have bj := bad_nI (k := j) (n := 16) hj' (by decide)
  have cj := nI_clamp (n := j) (by omega)
  have hok := WX_ok (Rel_WX hR)
  refine Pair_q (v := .int (I 5 j)) hR ⟨I, sfr_rf, K50 fun d' => ?_⟩ (fun I1 h1 hR1 => ⟨_, of_fin I1, K50 fun d' => ?_⟩)
  · show pm_V X (d' + 49) 2 0 [some (.ref 0), some (.int (nI j)), some (.int (nI 2))] [] (pm_S0 ++ g, I, J) _
    simp only [e_B_of_0, e_B_of_1, e_B_of_4, e_B_of_7, e_B_of_8, e_B_of_9, e_B_of_10_c0, e_B_of_10_c1, e_B_of_10_c2, e_B_of_10_c3, e_B_of_10_c4, e_B_of_10_c5, e_B_of_10_c6, e_B_of_10_d, e_B_of_52, e_B_of_53, e_B_of_56, e_B_of_59, e_B_of_62, e_B_of_63, e_B_of_64, e_B_of_65, e_B_of_66, e_B_of_69, e_B_of_72, e_B_of_75, e_B_of_76, e_B_of_77, e_B_of_78, e_B_of_79, e_B_of_82, e_B_of_85, e_B_of_88, e_B_of_89, e_B_of_90, e_B_of_91, e_B_of_92, e_B_of_95, e_B_of_98, e_B_of_99, e_B_of_102, e_B_of_103, e_B_of_104, e_B_of_107, e_B_of_110, e_B_of_111, e_B_of_114, e_B_of_115, e_B_of_116, e_B_of_117, e_B_of_120, e_B_of_123, e_B_of_124, e_B_of_127, e_B_of_128, e_B_of_131, e_B_of_134, e_B_of_135, e_B_of_138, e_B_of_141, e_B_of_144, e_B_of_145, e_B_of_148, e_B_of_149, e_B_of_150, e_B_of_151, e_B_of_154, e_B_of_157, e_B_of_158, e_B_of_159, e_B_of_160, e_B_of_161, show nI 2 = 2 from rfl, K_B_isCell, eq_true hc, sh_r_0_0, sh_r_1_0, sh_r_2_2, sh_i_5, bj, cj, pm_opt_some, pm_opt_none, pm_opt_if, Bool.false_eq_true, Bool.not_false, Bool.not_true, if_false, if_true, true_and, and_true, true_or, or_true, not_true_eq_false, not_false_eq_true, q10, q00, q01, q11, pk_v, pk_i, pk_l, pk_r]
  · show pm_V X (d' + 49) 149 0 [some (.ref 82), some (.int (nI j)), some (.int (nI 2))] [] (pm_S0 ++ g, I1, J) _
    rw [of_pre hc hR1]
    simp only [e_M_of_0, e_M_of_1, e_M_of_2, e_M_of_5, e_M_of_8, e_M_of_9, e_M_of_10, e_M_of_11, e_M_of_14, e_M_of_15, e_M_of_16, e_M_of_19, e_M_of_20_c0, e_M_of_20_c1, e_M_of_20_c2, e_M_of_20_c3, e_M_of_20_c4, e_M_of_20_c5, e_M_of_20_c6, e_M_of_20_d, e_M_of_64, e_M_of_65, e_M_of_68, e_M_of_69, e_M_of_70, e_M_of_71, e_M_of_72, e_M_of_75, e_M_of_76, e_M_of_77, e_M_of_78, e_M_of_79, e_M_of_82, e_M_of_83, e_M_of_84, e_M_of_85, e_M_of_86, e_M_of_87, e_M_of_90, e_M_of_91, e_M_of_92, e_M_of_95, e_M_of_96, e_M_of_97, e_M_of_98, e_M_of_99, e_M_of_100, e_M_of_101, e_M_of_104, e_M_of_105, e_M_of_106, e_M_of_109, e_M_of_112, e_M_of_113, e_M_of_116, e_M_of_117, e_M_of_118, e_M_of_119, e_M_of_122, e_M_of_123, e_M_of_124, e_M_of_125, e_M_of_126, show nI 2 = 2 from rfl, sh_r_82_4, sh_i_85, bj, cj, MS_rd (q := 85) (by decide), pu_ne (show ¬ 85 = 102 by decide), sfr_at nL_sfr (q := 85) (by decide), hR1.1.1.2.2.1, sfr_at h1 (q := 5) (by decide), pm_opt_some, pm_opt_none, pm_opt_if, Bool.false_eq_true, Bool.not_false, Bool.not_true, if_false, if_true, true_and, and_true, true_or, or_true, not_true_eq_false, not_false_eq_true, q10, q00, q01, q11, pk_v, pk_i, pk_l, pk_r]
theorem Pair_of_3 (hR : Rel I J) (hc : 0 ≤ nI j ∧ nI j ≤ 15) (hj' : j < 16) : Pair X 2 149 [.int (nI j), .int (nI 3)] g I J := by
  have bj := bad_nI (k := j) (n := 16) hj' (by decide)
  have cj := nI_clamp (n := j) (by omega)
  have hok := WX_ok (Rel_WX hR)
  refine Pair_q (v := .int (thT (rowT I 3 4 5 j))) hR ⟨I, sfr_rf, K50 fun d' => ?_⟩ (fun I1 h1 hR1 => ⟨_, of_fin I1, K50 fun d' => ?_⟩)
  · show pm_V X (d' + 49) 2 0 [some (.ref 0), some (.int (nI j)), some (.int (nI 3))] [] (pm_S0 ++ g, I, J) _
    simp only [e_B_of_0, e_B_of_1, e_B_of_4, e_B_of_7, e_B_of_8, e_B_of_9, e_B_of_10_c0, e_B_of_10_c1, e_B_of_10_c2, e_B_of_10_c3, e_B_of_10_c4, e_B_of_10_c5, e_B_of_10_c6, e_B_of_10_d, e_B_of_52, e_B_of_53, e_B_of_56, e_B_of_59, e_B_of_62, e_B_of_63, e_B_of_64, e_B_of_65, e_B_of_66, e_B_of_69, e_B_of_72, e_B_of_75, e_B_of_76, e_B_of_77, e_B_of_78, e_B_of_79, e_B_of_82, e_B_of_85, e_B_of_88, e_B_of_89, e_B_of_90, e_B_of_91, e_B_of_92, e_B_of_95, e_B_of_98, e_B_of_99, e_B_of_102, e_B_of_103, e_B_of_104, e_B_of_107, e_B_of_110, e_B_of_111, e_B_of_114, e_B_of_115, e_B_of_116, e_B_of_117, e_B_of_120, e_B_of_123, e_B_of_124, e_B_of_127, e_B_of_128, e_B_of_131, e_B_of_134, e_B_of_135, e_B_of_138, e_B_of_141, e_B_of_144, e_B_of_145, e_B_of_148, e_B_of_149, e_B_of_150, e_B_of_151, e_B_of_154, e_B_of_157, e_B_of_158, e_B_of_159, e_B_of_160, e_B_of_161, show nI 3 = 3 from rfl, K_B_isCell, eq_true hc, sh_o_2, sh_r_0_0, sh_r_1_0, K_I_thick ice_now hj', pm_opt_some, pm_opt_none, pm_opt_if, Bool.false_eq_true, Bool.not_false, Bool.not_true, if_false, if_true, true_and, and_true, true_or, or_true, not_true_eq_false, not_false_eq_true, q10, q00, q01, q11, pk_v, pk_i, pk_l, pk_r]
    rfl
  · show pm_V X (d' + 49) 149 0 [some (.ref 82), some (.int (nI j)), some (.int (nI 3))] [] (pm_S0 ++ g, I1, J) _
    rw [of_pre hc hR1]
    simp only [e_M_of_0, e_M_of_1, e_M_of_2, e_M_of_5, e_M_of_8, e_M_of_9, e_M_of_10, e_M_of_11, e_M_of_14, e_M_of_15, e_M_of_16, e_M_of_19, e_M_of_20_c0, e_M_of_20_c1, e_M_of_20_c2, e_M_of_20_c3, e_M_of_20_c4, e_M_of_20_c5, e_M_of_20_c6, e_M_of_20_d, e_M_of_64, e_M_of_65, e_M_of_68, e_M_of_69, e_M_of_70, e_M_of_71, e_M_of_72, e_M_of_75, e_M_of_76, e_M_of_77, e_M_of_78, e_M_of_79, e_M_of_82, e_M_of_83, e_M_of_84, e_M_of_85, e_M_of_86, e_M_of_87, e_M_of_90, e_M_of_91, e_M_of_92, e_M_of_95, e_M_of_96, e_M_of_97, e_M_of_98, e_M_of_99, e_M_of_100, e_M_of_101, e_M_of_104, e_M_of_105, e_M_of_106, e_M_of_109, e_M_of_112, e_M_of_113, e_M_of_116, e_M_of_117, e_M_of_118, e_M_of_119, e_M_of_122, e_M_of_123, e_M_of_124, e_M_of_125, e_M_of_126, show nI 3 = 3 from rfl, sh_o_82, K_M_thickT hj', pm_opt_some, pm_opt_none, pm_opt_if, Bool.false_eq_true, Bool.not_false, Bool.not_true, if_false, if_true, true_and, and_true, true_or, or_true, not_true_eq_false, not_false_eq_true, q10, q00, q01, q11, pk_v, pk_i, pk_l, pk_r]
    unfold rowT
    simp only [sfr_at h1 (q := 3) (by decide), sfr_at h1 (q := 4) (by decide), sfr_at h1 (q := 5) (by decide)]
theorem Pair_of_4 (hR : Rel I J) (hc : 0 ≤ nI j ∧ nI j ≤ 15) (hj' : j < 16) : Pair X 2 149 [.int (nI j), .int (nI 4)] g I J := by
  have bj := bad_nI (k := j) (n := 16) hj' (by decide)
  have cj := nI_clamp (n := j) (by omega)
  have hok := WX_ok (Rel_WX hR)
  refine Pair_q (v := .int (ldI (I 6) j)) hR ⟨I, sfr_rf, K50 fun d' => ?_⟩ (fun I1 h1 hR1 => ⟨_, of_fin I1, K50 fun d' => ?_⟩)
  · show pm_V X (d' + 49) 2 0 [some (.ref 0), some (.int (nI j)), some (.int (nI 4))] [] (pm_S0 ++ g, I, J) _
    simp only [e_B_of_0, e_B_of_1, e_B_of_4, e_B_of_7, e_B_of_8, e_B_of_9, e_B_of_10_c0, e_B_of_10_c1, e_B_of_10_c2, e_B_of_10_c3, e_B_of_10_c4, e_B_of_10_c5, e_B_of_10_c6, e_B_of_10_d, e_B_of_52, e_B_of_53, e_B_of_56, e_B_of_59, e_B_of_62, e_B_of_63, e_B_of_64, e_B_of_65, e_B_of_66, e_B_of_69, e_B_of_72, e_B_of_75, e_B_of_76, e_B_of_77, e_B_of_78, e_B_of_79, e_B_of_82, e_B_of_85, e_B_of_88, e_B_of_89, e_B_of_90, e_B_of_91, e_B_of_92, e_B_of_95, e_B_of_98, e_B_of_99, e_B_of_102, e_B_of_103, e_B_of_104, e_B_of_107, e_B_of_110, e_B_of_111, e_B_of_114, e_B_of_115, e_B_of_116, e_B_of_117, e_B_of_120, e_B_of_123, e_B_of_124, e_B_of_127, e_B_of_128, e_B_of_131, e_B_of_134, e_B_of_135, e_B_of_138, e_B_of_141, e_B_of_144, e_B_of_145, e_B_of_148, e_B_of_149, e_B_of_150, e_B_of_151, e_B_of_154, e_B_of_157, e_B_of_158, e_B_of_159, e_B_of_160, e_B_of_161, show nI 4 = 4 from rfl, K_B_isCell, eq_true hc, sh_r_0_0, sh_r_1_1, K_B_loadOf (S := pm_S0 ++ g) (a := 6) rfl hj', pm_opt_some, pm_opt_none, pm_opt_if, Bool.false_eq_true, Bool.not_false, Bool.not_true, if_false, if_true, true_and, and_true, true_or, or_true, not_true_eq_false, not_false_eq_true, q10, q00, q01, q11, pk_v, pk_i, pk_l, pk_r]
  · show pm_V X (d' + 49) 149 0 [some (.ref 82), some (.int (nI j)), some (.int (nI 4))] [] (pm_S0 ++ g, I1, J) _
    rw [of_pre hc hR1]
    simp only [e_M_of_0, e_M_of_1, e_M_of_2, e_M_of_5, e_M_of_8, e_M_of_9, e_M_of_10, e_M_of_11, e_M_of_14, e_M_of_15, e_M_of_16, e_M_of_19, e_M_of_20_c0, e_M_of_20_c1, e_M_of_20_c2, e_M_of_20_c3, e_M_of_20_c4, e_M_of_20_c5, e_M_of_20_c6, e_M_of_20_d, e_M_of_64, e_M_of_65, e_M_of_68, e_M_of_69, e_M_of_70, e_M_of_71, e_M_of_72, e_M_of_75, e_M_of_76, e_M_of_77, e_M_of_78, e_M_of_79, e_M_of_82, e_M_of_83, e_M_of_84, e_M_of_85, e_M_of_86, e_M_of_87, e_M_of_90, e_M_of_91, e_M_of_92, e_M_of_95, e_M_of_96, e_M_of_97, e_M_of_98, e_M_of_99, e_M_of_100, e_M_of_101, e_M_of_104, e_M_of_105, e_M_of_106, e_M_of_109, e_M_of_112, e_M_of_113, e_M_of_116, e_M_of_117, e_M_of_118, e_M_of_119, e_M_of_122, e_M_of_123, e_M_of_124, e_M_of_125, e_M_of_126, show nI 4 = 4 from rfl, sh_r_82_31, sh_i_102, bj, cj, MS_rd (q := 102) (by decide), pu_eq, hj', sfr_at h1 (q := 6) (by decide), pm_opt_some, pm_opt_none, pm_opt_if, Bool.false_eq_true, Bool.not_false, Bool.not_true, if_false, if_true, true_and, and_true, true_or, or_true, not_true_eq_false, not_false_eq_true, q10, q00, q01, q11, pk_v, pk_i, pk_l, pk_r]
theorem Pair_of_5 (hR : Rel I J) (hc : 0 ≤ nI j ∧ nI j ≤ 15) (hj' : j < 16) : Pair X 2 149 [.int (nI j), .int (nI 5)] g I J := by
  have bj := bad_nI (k := j) (n := 16) hj' (by decide)
  have cj := nI_clamp (n := j) (by omega)
  have hok := WX_ok (Rel_WX hR)
  have hb := fun (d : Nat) (P : pm_O → Prop) (l : Int32) => K_B_bears (X := X) (d := d) (P := P) (g := g) (J := J) (t := I 3 j + I 4 j / 2) (l := l) hok
  generalize hz : beI (thT (rowT I 3 4 5 j)) (ldI (I 6) j) (bI I) = z
  have hz1 : beI (I 3 j + I 4 j / 2) (ldI (I 6) j) (bI I) = z := hz
  refine Pair_q (v := .int (b2i z)) hR ⟨I, sfr_rf, K50 fun d' => ?_⟩ (fun I1 h1 hR1 => ⟨_, of_fin I1, K50 fun d' => ?_⟩)
  · show pm_V X (d' + 49) 2 0 [some (.ref 0), some (.int (nI j)), some (.int (nI 5))] [] (pm_S0 ++ g, I, J) _
    simp only [e_B_of_0, e_B_of_1, e_B_of_4, e_B_of_7, e_B_of_8, e_B_of_9, e_B_of_10_c0, e_B_of_10_c1, e_B_of_10_c2, e_B_of_10_c3, e_B_of_10_c4, e_B_of_10_c5, e_B_of_10_c6, e_B_of_10_d, e_B_of_52, e_B_of_53, e_B_of_56, e_B_of_59, e_B_of_62, e_B_of_63, e_B_of_64, e_B_of_65, e_B_of_66, e_B_of_69, e_B_of_72, e_B_of_75, e_B_of_76, e_B_of_77, e_B_of_78, e_B_of_79, e_B_of_82, e_B_of_85, e_B_of_88, e_B_of_89, e_B_of_90, e_B_of_91, e_B_of_92, e_B_of_95, e_B_of_98, e_B_of_99, e_B_of_102, e_B_of_103, e_B_of_104, e_B_of_107, e_B_of_110, e_B_of_111, e_B_of_114, e_B_of_115, e_B_of_116, e_B_of_117, e_B_of_120, e_B_of_123, e_B_of_124, e_B_of_127, e_B_of_128, e_B_of_131, e_B_of_134, e_B_of_135, e_B_of_138, e_B_of_141, e_B_of_144, e_B_of_145, e_B_of_148, e_B_of_149, e_B_of_150, e_B_of_151, e_B_of_154, e_B_of_157, e_B_of_158, e_B_of_159, e_B_of_160, e_B_of_161, show nI 5 = 5 from rfl, K_B_isCell, eq_true hc, sh_o_0, sh_o_2, sh_r_0_0, sh_r_1_0, sh_r_1_1, K_I_thick ice_now hj', K_B_loadOf (S := pm_S0 ++ g) (a := 6) rfl hj', hb, hz1, pm_opt_some, pm_opt_none, pm_opt_if, Bool.false_eq_true, Bool.not_false, Bool.not_true, if_false, if_true, true_and, and_true, true_or, or_true, not_true_eq_false, not_false_eq_true, q10, q00, q01, q11, pk_v, pk_i, pk_l, pk_r]
    exact if_ans
  · have hRB : Rel (pm_up (nL I1) 102 (fun i => if i < 16 then ldI (I1 6) i else nL I1 102 i)) J := Rel_s (sfr_tr nL_sfr sfr_102) hR1
    have hs : sfr I (pm_up (nL I1) 102 (fun i => if i < 16 then ldI (I1 6) i else nL I1 102 i)) := sfr_tr h1 (sfr_tr nL_sfr sfr_102)
    have ebI : wbI (pm_up (nL I1) 102 (fun i => if i < 16 then ldI (I1 6) i else nL I1 102 i)) (hwI (pm_up (nL I1) 102 (fun i => if i < 16 then ldI (I1 6) i else nL I1 102 i))) = bI I := sfr_bI hs
    have ro : rowT I1 3 4 5 = rowT I 3 4 5 := sfr_row0 h1
    have e6 : I1 6 = I 6 := sfr_at h1 (by decide)
    have kb := fun (d : Nat) (P : pm_O → Prop) => K_M_bears (X := X) (d := d) (P := P) (g := g) (J := J) (T := rowT I1 3 4 5) (n := I1 1 4) (p := I1 98) (l := ldI (I1 6) j) (Rel_WXm hRB) hj'
    rw [ebI, ro, e6, hz] at kb
    show pm_V X (d' + 49) 149 0 [some (.ref 82), some (.int (nI j)), some (.int (nI 5))] [] (pm_S0 ++ g, I1, J) _
    rw [of_pre hc hR1, ro, e6]
    have e102 : MS (pm_up (nL I1) 102 (fun i => if i < 16 then ldI (I 6) i else nL I1 102 i)) (rowT I 3 4 5) (I1 1 4) (I1 98) 102 j = ldI (I 6) j := by
      rw [MS_rd (by decide), pu_eq, if_pos hj']
    simp only [e_M_of_0, e_M_of_1, e_M_of_2, e_M_of_5, e_M_of_8, e_M_of_9, e_M_of_10, e_M_of_11, e_M_of_14, e_M_of_15, e_M_of_16, e_M_of_19, e_M_of_20_c0, e_M_of_20_c1, e_M_of_20_c2, e_M_of_20_c3, e_M_of_20_c4, e_M_of_20_c5, e_M_of_20_c6, e_M_of_20_d, e_M_of_64, e_M_of_65, e_M_of_68, e_M_of_69, e_M_of_70, e_M_of_71, e_M_of_72, e_M_of_75, e_M_of_76, e_M_of_77, e_M_of_78, e_M_of_79, e_M_of_82, e_M_of_83, e_M_of_84, e_M_of_85, e_M_of_86, e_M_of_87, e_M_of_90, e_M_of_91, e_M_of_92, e_M_of_95, e_M_of_96, e_M_of_97, e_M_of_98, e_M_of_99, e_M_of_100, e_M_of_101, e_M_of_104, e_M_of_105, e_M_of_106, e_M_of_109, e_M_of_112, e_M_of_113, e_M_of_116, e_M_of_117, e_M_of_118, e_M_of_119, e_M_of_122, e_M_of_123, e_M_of_124, e_M_of_125, e_M_of_126, show nI 5 = 5 from rfl, sh_o_82, sh_r_82_31, sh_i_102, bj, cj, e102, kb, pm_opt_some, pm_opt_none, pm_opt_if, Bool.false_eq_true, Bool.not_false, Bool.not_true, if_false, if_true, true_and, and_true, true_or, or_true, not_true_eq_false, not_false_eq_true, q10, q00, q01, q11, pk_v, pk_i, pk_l, pk_r]
    exact if_ans
theorem Pair_of_6 (hR : Rel I J) (hc : 0 ≤ nI j ∧ nI j ≤ 15) (hj' : j < 16) : Pair X 2 149 [.int (nI j), .int (nI 6)] g I J := by
  have bj := bad_nI (k := j) (n := 16) hj' (by decide)
  have cj := nI_clamp (n := j) (by omega)
  have hok := WX_ok (Rel_WX hR)
  refine Pair_q (v := .int (I 6 j)) hR ⟨I, sfr_rf, K50 fun d' => ?_⟩ (fun I1 h1 hR1 => ⟨_, of_fin I1, K50 fun d' => ?_⟩)
  · show pm_V X (d' + 49) 2 0 [some (.ref 0), some (.int (nI j)), some (.int (nI 6))] [] (pm_S0 ++ g, I, J) _
    simp only [e_B_of_0, e_B_of_1, e_B_of_4, e_B_of_7, e_B_of_8, e_B_of_9, e_B_of_10_c0, e_B_of_10_c1, e_B_of_10_c2, e_B_of_10_c3, e_B_of_10_c4, e_B_of_10_c5, e_B_of_10_c6, e_B_of_10_d, e_B_of_52, e_B_of_53, e_B_of_56, e_B_of_59, e_B_of_62, e_B_of_63, e_B_of_64, e_B_of_65, e_B_of_66, e_B_of_69, e_B_of_72, e_B_of_75, e_B_of_76, e_B_of_77, e_B_of_78, e_B_of_79, e_B_of_82, e_B_of_85, e_B_of_88, e_B_of_89, e_B_of_90, e_B_of_91, e_B_of_92, e_B_of_95, e_B_of_98, e_B_of_99, e_B_of_102, e_B_of_103, e_B_of_104, e_B_of_107, e_B_of_110, e_B_of_111, e_B_of_114, e_B_of_115, e_B_of_116, e_B_of_117, e_B_of_120, e_B_of_123, e_B_of_124, e_B_of_127, e_B_of_128, e_B_of_131, e_B_of_134, e_B_of_135, e_B_of_138, e_B_of_141, e_B_of_144, e_B_of_145, e_B_of_148, e_B_of_149, e_B_of_150, e_B_of_151, e_B_of_154, e_B_of_157, e_B_of_158, e_B_of_159, e_B_of_160, e_B_of_161, show nI 6 = 6 from rfl, K_B_isCell, eq_true hc, sh_r_0_0, sh_r_1_1, sh_i_6, bj, cj, pm_opt_some, pm_opt_none, pm_opt_if, Bool.false_eq_true, Bool.not_false, Bool.not_true, if_false, if_true, true_and, and_true, true_or, or_true, not_true_eq_false, not_false_eq_true, q10, q00, q01, q11, pk_v, pk_i, pk_l, pk_r]
  · show pm_V X (d' + 49) 149 0 [some (.ref 82), some (.int (nI j)), some (.int (nI 6))] [] (pm_S0 ++ g, I1, J) _
    rw [of_pre hc hR1]
    simp only [e_M_of_0, e_M_of_1, e_M_of_2, e_M_of_5, e_M_of_8, e_M_of_9, e_M_of_10, e_M_of_11, e_M_of_14, e_M_of_15, e_M_of_16, e_M_of_19, e_M_of_20_c0, e_M_of_20_c1, e_M_of_20_c2, e_M_of_20_c3, e_M_of_20_c4, e_M_of_20_c5, e_M_of_20_c6, e_M_of_20_d, e_M_of_64, e_M_of_65, e_M_of_68, e_M_of_69, e_M_of_70, e_M_of_71, e_M_of_72, e_M_of_75, e_M_of_76, e_M_of_77, e_M_of_78, e_M_of_79, e_M_of_82, e_M_of_83, e_M_of_84, e_M_of_85, e_M_of_86, e_M_of_87, e_M_of_90, e_M_of_91, e_M_of_92, e_M_of_95, e_M_of_96, e_M_of_97, e_M_of_98, e_M_of_99, e_M_of_100, e_M_of_101, e_M_of_104, e_M_of_105, e_M_of_106, e_M_of_109, e_M_of_112, e_M_of_113, e_M_of_116, e_M_of_117, e_M_of_118, e_M_of_119, e_M_of_122, e_M_of_123, e_M_of_124, e_M_of_125, e_M_of_126, show nI 6 = 6 from rfl, sh_r_82_5, sh_i_86, bj, cj, MS_rd (q := 86) (by decide), pu_ne (show ¬ 86 = 102 by decide), sfr_at nL_sfr (q := 86) (by decide), Rel_86 hR1, sfr_at h1 (q := 6) (by decide), pm_opt_some, pm_opt_none, pm_opt_if, Bool.false_eq_true, Bool.not_false, Bool.not_true, if_false, if_true, true_and, and_true, true_or, or_true, not_true_eq_false, not_false_eq_true, q10, q00, q01, q11, pk_v, pk_i, pk_l, pk_r]
theorem Pair_of (hR : Rel I J) : Pair X 2 149 [.int c, .int b] g I J := by
  by_cases hc : 0 ≤ c ∧ c ≤ 15
  · obtain ⟨j, hj, rfl⟩ := in_of (m := 15) rfl hc
    have hj' : j < 16 := by omega
    by_cases hb : 0 ≤ b ∧ b ≤ 6
    · obtain ⟨m, hm, rfl⟩ := in_of (m := 6) rfl hb
      match m, hm with
      | 0, _ => exact Pair_of_0 hR hc hj'
      | 1, _ => exact Pair_of_1 hR hc hj'
      | 2, _ => exact Pair_of_2 hR hc hj'
      | 3, _ => exact Pair_of_3 hR hc hj'
      | 4, _ => exact Pair_of_4 hR hc hj'
      | 5, _ => exact Pair_of_5 hR hc hj'
      | 6, _ => exact Pair_of_6 hR hc hj'
    · refine Pair_q (v := .int (-1)) hR ⟨I, sfr_rf, K50 fun d' => ?_⟩ (fun I1 h1 hR1 => ⟨_, of_fin I1, K50 fun d' => ?_⟩)
      · show pm_V X (d' + 49) 2 0 [some (.ref 0), some (.int (nI j)), some (.int b)] [] (pm_S0 ++ g, I, J) _
        simp only [e_B_of_0, e_B_of_1, e_B_of_4, e_B_of_7, e_B_of_8, e_B_of_9, e_B_of_52, e_B_of_53, e_B_of_56, e_B_of_59, e_B_of_62, e_B_of_63, e_B_of_64, e_B_of_65, e_B_of_66, e_B_of_69, e_B_of_72, e_B_of_75, e_B_of_76, e_B_of_77, e_B_of_78, e_B_of_79, e_B_of_82, e_B_of_85, e_B_of_88, e_B_of_89, e_B_of_90, e_B_of_91, e_B_of_92, e_B_of_95, e_B_of_98, e_B_of_99, e_B_of_102, e_B_of_103, e_B_of_104, e_B_of_107, e_B_of_110, e_B_of_111, e_B_of_114, e_B_of_115, e_B_of_116, e_B_of_117, e_B_of_120, e_B_of_123, e_B_of_124, e_B_of_127, e_B_of_128, e_B_of_131, e_B_of_134, e_B_of_135, e_B_of_138, e_B_of_141, e_B_of_144, e_B_of_145, e_B_of_148, e_B_of_149, e_B_of_150, e_B_of_151, e_B_of_154, e_B_of_157, e_B_of_158, e_B_of_159, e_B_of_160, e_B_of_161, e_B_of_10_d (tab6 hb), K_B_isCell, eq_true hc, pm_opt_some, pm_opt_none, pm_opt_if, Bool.false_eq_true, Bool.not_false, Bool.not_true, if_false, if_true, true_and, and_true, true_or, or_true, not_true_eq_false, not_false_eq_true, q10, q00, q01, q11, pk_v, pk_i, pk_l, pk_r]
      · show pm_V X (d' + 49) 149 0 [some (.ref 82), some (.int (nI j)), some (.int b)] [] (pm_S0 ++ g, I1, J) _
        rw [of_pre hc hR1]
        rw [e_M_of_19, e_M_of_20_d (tab6 hb)]
        simp only [e_M_of_0, e_M_of_1, e_M_of_2, e_M_of_5, e_M_of_8, e_M_of_9, e_M_of_10, e_M_of_11, e_M_of_14, e_M_of_15, e_M_of_16, e_M_of_64, e_M_of_65, e_M_of_68, e_M_of_69, e_M_of_70, e_M_of_71, e_M_of_72, e_M_of_75, e_M_of_76, e_M_of_77, e_M_of_78, e_M_of_79, e_M_of_82, e_M_of_83, e_M_of_84, e_M_of_85, e_M_of_86, e_M_of_87, e_M_of_90, e_M_of_91, e_M_of_92, e_M_of_95, e_M_of_96, e_M_of_97, e_M_of_98, e_M_of_99, e_M_of_100, e_M_of_101, e_M_of_104, e_M_of_105, e_M_of_106, e_M_of_109, e_M_of_112, e_M_of_113, e_M_of_116, e_M_of_117, e_M_of_118, e_M_of_119, e_M_of_122, e_M_of_123, e_M_of_124, e_M_of_125, e_M_of_126]
  · exact Pair_q (v := .int (-1)) hR ⟨I, sfr_rf, K50 fun d' => by { show pm_V X (d' + 49) 2 0 [some (.ref 0), some (.int c), some (.int b)] [] (pm_S0 ++ g, I, J) _; simp only [e_B_of_0, e_B_of_1, e_B_of_4, e_B_of_7, e_B_of_8, e_B_of_9, e_B_of_10_c0, e_B_of_10_c1, e_B_of_10_c2, e_B_of_10_c3, e_B_of_10_c4, e_B_of_10_c5, e_B_of_10_c6, e_B_of_10_d, e_B_of_52, e_B_of_53, e_B_of_56, e_B_of_59, e_B_of_62, e_B_of_63, e_B_of_64, e_B_of_65, e_B_of_66, e_B_of_69, e_B_of_72, e_B_of_75, e_B_of_76, e_B_of_77, e_B_of_78, e_B_of_79, e_B_of_82, e_B_of_85, e_B_of_88, e_B_of_89, e_B_of_90, e_B_of_91, e_B_of_92, e_B_of_95, e_B_of_98, e_B_of_99, e_B_of_102, e_B_of_103, e_B_of_104, e_B_of_107, e_B_of_110, e_B_of_111, e_B_of_114, e_B_of_115, e_B_of_116, e_B_of_117, e_B_of_120, e_B_of_123, e_B_of_124, e_B_of_127, e_B_of_128, e_B_of_131, e_B_of_134, e_B_of_135, e_B_of_138, e_B_of_141, e_B_of_144, e_B_of_145, e_B_of_148, e_B_of_149, e_B_of_150, e_B_of_151, e_B_of_154, e_B_of_157, e_B_of_158, e_B_of_159, e_B_of_160, e_B_of_161, K_B_isCell, K_B_isWithin, K_B_isTape, K_B_isKind, eq_false hc, pm_opt_some, pm_opt_none, pm_opt_if, Bool.false_eq_true, Bool.not_false, Bool.not_true, if_false, if_true, true_and, and_true, true_or, or_true, not_true_eq_false, not_false_eq_true, q10, q00, q01, q11, pk_v, pk_i, pk_l, pk_r] }⟩ (fun I1 h1 hR1 => ⟨I1, sfr_rf, K50 fun d' => by { show pm_V X (d' + 49) 149 0 [some (.ref 82), some (.int c), some (.int b)] [] (pm_S0 ++ g, I1, J) _; simp only [e_M_of_0, e_M_of_1, e_M_of_2, e_M_of_5, e_M_of_8, e_M_of_9, e_M_of_10, e_M_of_11, e_M_of_14, e_M_of_15, e_M_of_16, e_M_of_19, e_M_of_20_c0, e_M_of_20_c1, e_M_of_20_c2, e_M_of_20_c3, e_M_of_20_c4, e_M_of_20_c5, e_M_of_20_c6, e_M_of_20_d, e_M_of_64, e_M_of_65, e_M_of_68, e_M_of_69, e_M_of_70, e_M_of_71, e_M_of_72, e_M_of_75, e_M_of_76, e_M_of_77, e_M_of_78, e_M_of_79, e_M_of_82, e_M_of_83, e_M_of_84, e_M_of_85, e_M_of_86, e_M_of_87, e_M_of_90, e_M_of_91, e_M_of_92, e_M_of_95, e_M_of_96, e_M_of_97, e_M_of_98, e_M_of_99, e_M_of_100, e_M_of_101, e_M_of_104, e_M_of_105, e_M_of_106, e_M_of_109, e_M_of_112, e_M_of_113, e_M_of_116, e_M_of_117, e_M_of_118, e_M_of_119, e_M_of_122, e_M_of_123, e_M_of_124, e_M_of_125, e_M_of_126, sh_o_82, K_M_isCell, K_M_in, K_M_isTape, eq_false hc, pm_opt_some, pm_opt_none, pm_opt_if, Bool.false_eq_true, Bool.not_false, Bool.not_true, if_false, if_true, true_and, and_true, true_or, or_true, not_true_eq_false, not_false_eq_true, q10, q00, q01, q11, pk_v, pk_i, pk_l, pk_r] }⟩)
theorem K_M_falls {m : Nat} (hm : m < 5) (hR : Rel B J) : pm_cl X (d + 4) 150 [.ref 82, .int (nI m)] (pm_S0 ++ g, MS B T n p, J) P = P (some (.int (faG T (bI B) (ldC (B 6) m))), (pm_S0 ++ g, MS (pm_up B 102 (fun i => if i < 16 then ldI (ldC (B 6) m) i else B 102 i)) T n p, J)) := by
  have hs : sfr B (pm_up B 102 (fun i => if i < 16 then ldI (ldC (B 6) m) i else B 102 i)) := sfr_102
  have hRB : Rel (pm_up B 102 (fun i => if i < 16 then ldI (ldC (B 6) m) i else B 102 i)) J := Rel_s hs hR
  have ebI : wbI (pm_up B 102 (fun i => if i < 16 then ldI (ldC (B 6) m) i else B 102 i)) (hwI (pm_up B 102 (fun i => if i < 16 then ldI (ldC (B 6) m) i else B 102 i))) = bI B := sfr_bI hs
  refine K_of (k := 3) (fun d' => ?_)
  have L := fun (Q : pm_O → Prop) => pm_lp (fun k (s : Int32) => pm_V X (d' + 3) 150 9 [some (.ref 82), some (.int (nI m)), some (.int s), some (.int (nI k))] [] (pm_S0 ++ g, MS (pm_up B 102 (fun i => if i < 16 then ldI (ldC (B 6) m) i else B 102 i)) T n p, J) Q) (fun k s => if 0 < ldC (B 6) m k ∧ ¬ beI (thT (T k)) (ldI (ldC (B 6) m) k) (bI B) = true then s ||| 1 <<< (nI k &&& 31) else s) 16 (by
    intro k s hk
    have h1 : ((16 : Int32) ≤ nI k) = False := by
      rw [show (16 : Int32) = nI 16 from rfl, nI_le_l (by omega) (by omega)]
      exact eq_false (by omega)
    have hb := bad_nI (k := k) (n := 16) hk (by decide)
    have hc := nI_clamp (n := k) (by omega)
    have hcol : (nI m ≤ nI k - nI k / 4 * 4) = ¬ k % 4 < m := propext (col_all m hm k hk)
    have hbe := fun (d : Nat) (P : pm_O → Prop) => K_M_bears (X := X) (d := d) (P := P) (g := g) (J := J) (T := T) (n := n) (p := p) (l := ldI (ldC (B 6) m) k) (Rel_WXm hRB) hk
    rw [ebI] at hbe
    show pm_V X (d' + 3) 150 9 [some (.ref 82), some (.int (nI m)), some (.int s), some (.int (nI k))] [] (pm_S0 ++ g, MS (pm_up B 102 (fun i => if i < 16 then ldI (ldC (B 6) m) i else B 102 i)) T n p, J) Q = _
    rw [e_M_falls_9]
    simp only [e_M_falls_0, e_M_falls_1, e_M_falls_2, e_M_falls_5, e_M_falls_6, e_M_falls_7, e_M_falls_8, e_M_falls_10, e_M_falls_12, e_M_falls_15, e_M_falls_16, e_M_falls_17, e_M_falls_18, e_M_falls_19, e_M_falls_20, e_M_falls_23, e_M_falls_24, e_M_falls_27, e_M_falls_28, e_M_falls_29, e_M_falls_32, e_M_falls_33, e_M_falls_34, e_M_falls_35, e_M_falls_38, e_M_falls_39, e_M_falls_40, e_M_falls_43, e_M_falls_46, e_M_falls_47, e_M_falls_48, e_M_falls_49, e_M_falls_52, e_M_falls_53, e_M_falls_54, e_M_falls_55, e_M_falls_58, e_M_falls_61, e_M_falls_62, h1, q4z, hcol, sh_o_82, sh_r_82_5, sh_r_82_31, sh_i_86, sh_i_102, hb, hc, hk, MS_rd (q := 86) (by decide), MS_rd (q := 102) (by decide), pu_eq, pu_ne (show ¬ 86 = 102 by decide), Rel_86 hR, hbe, nI_1, pm_opt_some, pm_opt_none, pm_opt_if, Bool.false_eq_true, Bool.not_false, Bool.not_true, if_false, if_true, true_and, and_true, true_or, or_true, not_true_eq_false, not_false_eq_true, q10, q00, q01, q11, pk_v, pk_i, pk_l, pk_r]
    unfold ldC
    by_cases q1 : k % 4 < m
    · by_cases q2 : B 6 k ≤ 0
      · have q2' : ¬ 0 < B 6 k := Int32.not_lt.mpr q2
        simp [q1, q2, q2']
      · have q2' : 0 < B 6 k := Int32.not_le.mp q2
        by_cases q3 : beI (thT (T k)) (ldI (fun o => if o % 4 < m then B 6 o else 0) k) (bI B) = true
        · simp [q1, q2, q2', q3]
        · simp [q1, q2, q2', q3]
    · simp [q1]) 16 0 0 (by omega)
  rw [nI_0] at L
  show pm_V X (d' + 3) 150 0 [some (.ref 82), some (.int (nI m)), none, none] [] (pm_S0 ++ g, MS B T n p, J) _
  have h16 : ((16 : Int32) ≤ nI 16) = True := by decide
  simp only [e_M_falls_0, e_M_falls_1, e_M_falls_2, e_M_falls_5, e_M_falls_6, e_M_falls_7, e_M_falls_8, e_M_falls_10, e_M_falls_12, e_M_falls_15, e_M_falls_16, e_M_falls_17, e_M_falls_18, e_M_falls_19, e_M_falls_20, e_M_falls_23, e_M_falls_24, e_M_falls_27, e_M_falls_28, e_M_falls_29, e_M_falls_32, e_M_falls_33, e_M_falls_34, e_M_falls_35, e_M_falls_38, e_M_falls_39, e_M_falls_40, e_M_falls_43, e_M_falls_46, e_M_falls_47, e_M_falls_48, e_M_falls_49, e_M_falls_52, e_M_falls_53, e_M_falls_54, e_M_falls_55, e_M_falls_58, e_M_falls_61, e_M_falls_62, sh_o_82, K_M_layL hm (Rel_86 hR), pm_opt_some, pm_opt_none, pm_opt_if, Bool.false_eq_true, Bool.not_false, Bool.not_true, if_false, if_true, true_and, and_true, true_or, or_true, not_true_eq_false, not_false_eq_true, q10, q00, q01, q11, pk_v, pk_i, pk_l, pk_r]
  rw [L, e_M_falls_9]
  simp only [e_M_falls_0, e_M_falls_1, e_M_falls_2, e_M_falls_5, e_M_falls_6, e_M_falls_7, e_M_falls_8, e_M_falls_10, e_M_falls_12, e_M_falls_15, e_M_falls_16, e_M_falls_17, e_M_falls_18, e_M_falls_19, e_M_falls_20, e_M_falls_23, e_M_falls_24, e_M_falls_27, e_M_falls_28, e_M_falls_29, e_M_falls_32, e_M_falls_33, e_M_falls_34, e_M_falls_35, e_M_falls_38, e_M_falls_39, e_M_falls_40, e_M_falls_43, e_M_falls_46, e_M_falls_47, e_M_falls_48, e_M_falls_49, e_M_falls_52, e_M_falls_53, e_M_falls_54, e_M_falls_55, e_M_falls_58, e_M_falls_61, e_M_falls_62, h16, pm_opt_some, pm_opt_none, pm_opt_if, Bool.false_eq_true, Bool.not_false, Bool.not_true, if_false, if_true, true_and, and_true, true_or, or_true, not_true_eq_false, not_false_eq_true, q10, q00, q01, q11, pk_v, pk_i, pk_l, pk_r]
  rfl
theorem Pair_fall (hR : Rel I J) : Pair X 4 151 [] g I J := by
  have hok := WX_ok (Rel_WX hR)
  refine Pair_q (v := .int (faI I (I 6))) hR ⟨I, sfr_rf, K50 fun d' => ?_⟩ (fun I1 h1 hR1 => ?_)
  · show pm_V X (d' + 49) 4 0 [some (.ref 0)] [] (pm_S0 ++ g, I, J) _
    simp only [e_B_fall_0, e_B_fall_1, e_B_fall_2, e_B_fall_5, e_B_fall_8, e_B_fall_11, sh_o_0, sh_r_0_0, sh_r_1_1, K_B_fallingOf (a := 6) rfl hok, pm_opt_some, pm_opt_none, pm_opt_if, Bool.false_eq_true, Bool.not_false, Bool.not_true, if_false, if_true, true_and, and_true, true_or, or_true, not_true_eq_false, not_false_eq_true, q10, q00, q01, q11, pk_v, pk_i, pk_l, pk_r]
  · have hRB : Rel (nL I1) J := Rel_s nL_sfr hR1
    refine ⟨_, sfr_tr (sfr_tr (I' := nL I1) nL_sfr (sfr_102 (F := fun i => if i < 16 then ldI (ldC (nL I1 6) 4) i else nL I1 102 i))) (MS_sfr (T := rowT I1 3 4 5) (n := I1 1 4) (p := I1 98)), K50 fun d' => ?_⟩
    show pm_V X (d' + 49) 151 0 [some (.ref 82)] [] (pm_S0 ++ g, I1, J) _
    have fa := fun (d : Nat) (P : pm_O → Prop) (T : Nat → T3) (n : Int32) (p : Nat → Int32) => K_M_falls (X := X) (d := d) (P := P) (g := g) (J := J) (T := T) (n := n) (p := p) (m := 4) (by decide) hRB
    simp only [show nI 4 = 4 from rfl] at fa
    simp only [e_M_fall_0, e_M_fall_1, e_M_fall_4, e_M_fall_5, e_M_fall_6, e_M_fall_9, sh_o_82, K_M_asIs hR1, fa, pm_opt_some, pm_opt_none, pm_opt_if, Bool.false_eq_true, Bool.not_false, Bool.not_true, if_false, if_true, true_and, and_true, true_or, or_true, not_true_eq_false, not_false_eq_true, q10, q00, q01, q11, pk_v, pk_i, pk_l, pk_r]
    have ro : rowT I1 3 4 5 = rowT I 3 4 5 := by
      unfold rowT
      simp only [sfr_at h1 (q := 3) (by decide), sfr_at h1 (q := 4) (by decide), sfr_at h1 (q := 5) (by decide)]
    rw [faI_G, ldC_4, ro, sfr_bI (sfr_tr h1 nL_sfr), sfr_at (sfr_tr h1 nL_sfr) (q := 6) (by decide)]
end P39
