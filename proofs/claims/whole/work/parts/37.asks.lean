/-! pairs of calls: told, cold, trace, taken, count, blows -/
section P37
variable {X : pm_X} {d : Nat} {P Q : pm_O → Prop} {g : List pm_S} {S : List pm_S} {I I' I'' : Nat → Nat → Int32} {J J' : Nat → Nat → Int64} {j w : Nat} {c a b s n k v : Int32} {fi : Int32} {p : Nat → Int32}
theorem pu_self {q : Nat} : pm_up I q (I q) = I := pw98i
/-- FROST of an hour, the reference's, on any heap -/
theorem M_frost {hour warm : Int32} (hX : WX I w fi) (hw : warm = 0 ∨ warm = 1) : ∃ p', ∀ (d : Nat) (P : pm_O → Prop), pm_cl X (d + 5) 136 [.ref 82, .int fi, .int hour, .int warm] (pm_S0 ++ g, I, J) P = P (some (.int (frI I w hour warm)), (pm_S0 ++ g, pm_up I 98 p', J)) := by
  have := K_M_frostOf (X := X) (g := g) (J := J) (hour := hour) (warm := warm) (p := I 98) hX hw
  rw [pu_self] at this
  exact this
theorem M_sum {which hour warm : Int32} (hX : WX I w fi) (hw : warm = 0 ∨ warm = 1) (h3 : ¬ which = 3) : ∃ p', ∀ (d : Nat) (P : pm_O → Prop), pm_cl X (d + 4) 133 [.ref 82, .int which, .int fi, .int hour, .int warm] (pm_S0 ++ g, I, J) P = P (some (.int (wsI I w which hour warm)), (pm_S0 ++ g, pm_up I 98 p', J)) := by
  have := K_M_sumOf (X := X) (g := g) (J := J) (which := which) (hour := hour) (warm := warm) (p := I 98) hX hw h3
  rw [pu_self] at this
  exact this
theorem sfr_98 {p : Nat → Int32} : sfr I (pm_up I 98 p) := sfr_of (L := [98]) (by decide) (pm_fr_up (by decide))
theorem wm_eq {h : Int32} (hR : Rel I J) : (if dayI h < 10 ∧ I 82 1 >>> (dayI h &&& 31) &&& 1 = 1 then (1 : Int32) else 0) = wmI I h := by
  unfold wmI
  rw [hR.1.2.2.1]
theorem sfr_hw (h : sfr I I') : hwI I' = hwI I := hwI_fr (sfr_at h (by decide))
theorem sfr_wm {x : Int32} (h : sfr I I') : wmI I' x = wmI I x := by unfold wmI; rw [sfr_at h (q := 1) (by decide)]
theorem sfr_ws {which hour warm : Int32} (h : sfr I I') (hw : isW w) : wsI I' w which hour warm = wsI I w which hour warm := fr_ws (by decide) h.1 hw
theorem sfr_wb (h : sfr I I') (hw : isW w) : wbI I' w = wbI I w := fr_wb (by decide) h.1 hw
theorem sfr_fr {hour warm : Int32} (h : sfr I I') (hw : isW w) : frI I' w hour warm = frI I w hour warm := by unfold frI; rw [sfr_ws h hw, sfr_ws h hw]
theorem sfr_WX (h : sfr I I') (hX : WX I w fi) : WX I' w fi := fr_WX (by decide) h.1 hX
theorem Pair_told (hR : Rel I J) : Pair X 7 137 [.int a, .int b] g I J := by
  by_cases hb : 0 ≤ b ∧ b ≤ 2
  · by_cases ha : 0 ≤ a ∧ a ≤ 999
    · have hX := Rel_WX hR
      have hok := WX_ok hX
      have isw := WX_is hX
      by_cases h0 : b = 0
      · refine Pair_q (v := .int (frI I (hwI I) a (wmI I a))) hR ⟨I, sfr_rf, K50 fun d' => ?_⟩ (fun I1 h1 hR1 => ?_)
        · show pm_V X (d' + 49) 7 0 [some (.ref 0), some (.int a), some (.int b), none] [] (pm_S0 ++ g, I, J) _
          have e := fun (d : Nat) (P : pm_O → Prop) => K_W_frost (X := X) (d := d) (P := P) (J := J) (hour := a) (isW_at (g := g) isw) hok (wmI_01 (I := I) (h := a))
          unfold wmI at e
          simp only [e_B_told_0, e_B_told_1, e_B_told_2, e_B_told_3, e_B_told_6, e_B_told_9, e_B_told_12, e_B_told_13, e_B_told_14, e_B_told_15, e_B_told_18, e_B_told_21, e_B_told_24, e_B_told_27, e_B_told_28, e_B_told_29, e_B_told_32, e_B_told_33, e_B_told_34, e_B_told_37, e_B_told_38, e_B_told_39, e_B_told_40, e_B_told_41, e_B_told_44, e_B_told_47, e_B_told_48, e_B_told_49, e_B_told_50, e_B_told_53, e_B_told_54, e_B_told_55, e_B_told_56, e_B_told_57, e_B_told_60, e_B_told_63, e_B_told_64, e_B_told_65, e_B_told_68, K_B_isWithin, eq_true hb, eq_true ha, eq_true h0, sh_o_0, (isW_at (g := g) isw).1, K_B_holding, K_B_isWarm, e, pm_opt_some, pm_opt_none, pm_opt_if, Bool.false_eq_true, Bool.not_false, Bool.not_true, if_false, if_true, true_and, and_true, true_or, or_true, not_true_eq_false, not_false_eq_true, q10, q00, q01, q11, pk_v, pk_i, pk_l, pk_r]
          rfl
        · obtain ⟨p', hp⟩ := M_frost (X := X) (g := g) (J := J) (hour := a) (Rel_WX hR1) (wmI_01 (I := I1) (h := a))
          refine ⟨_, sfr_98 (p := p'), K50 fun d' => ?_⟩
          show pm_V X (d' + 49) 137 0 [some (.ref 82), some (.int a), some (.int b)] [] (pm_S0 ++ g, I1, J) _
          have e := wm_eq (h := a) hR1
          have e2 : I1 82 10 = I1 1 11 := hR1.1.2.2.2.2
          simp only [e_M_told_0, e_M_told_1, e_M_told_2, e_M_told_3, e_M_told_4, e_M_told_7, e_M_told_10, e_M_told_13, e_M_told_14, e_M_told_15, e_M_told_16, e_M_told_17, e_M_told_20, e_M_told_23, e_M_told_26, e_M_told_29, e_M_told_30, e_M_told_31, e_M_told_34, e_M_told_35, e_M_told_36, e_M_told_39, e_M_told_40, e_M_told_41, e_M_told_42, e_M_told_45, e_M_told_48, e_M_told_51, e_M_told_52, e_M_told_53, e_M_told_56, e_M_told_57, e_M_told_58, e_M_told_59, e_M_told_62, e_M_told_63, e_M_told_64, e_M_told_65, e_M_told_68, e_M_told_71, e_M_told_74, e_M_told_75, e_M_told_78, K_M_in, eq_true hb, eq_true ha, eq_true h0, sh_o_82, K_M_isWarm, e, e2, hp, pm_opt_some, pm_opt_none, pm_opt_if, Bool.false_eq_true, Bool.not_false, Bool.not_true, if_false, if_true, true_and, and_true, true_or, or_true, not_true_eq_false, not_false_eq_true, q10, q00, q01, q11, pk_v, pk_i, pk_l, pk_r]
          rw [sfr_hw h1, sfr_wm h1, sfr_fr h1 isw]
      · by_cases h1 : b = 1
        · refine Pair_q (v := .int (wsI I (hwI I) 2 a (wmI I a))) hR ⟨I, sfr_rf, K50 fun d' => ?_⟩ (fun I1 h1' hR1 => ?_)
          · show pm_V X (d' + 49) 7 0 [some (.ref 0), some (.int a), some (.int b), none] [] (pm_S0 ++ g, I, J) _
            have e := fun (d : Nat) (P : pm_O → Prop) => K_W_falls (X := X) (d := d) (P := P) (J := J) (hour := a) (isW_at (g := g) isw) hok (wmI_01 (I := I) (h := a))
            unfold wmI at e
            simp only [e_B_told_0, e_B_told_1, e_B_told_2, e_B_told_3, e_B_told_6, e_B_told_9, e_B_told_12, e_B_told_13, e_B_told_14, e_B_told_15, e_B_told_18, e_B_told_21, e_B_told_24, e_B_told_27, e_B_told_28, e_B_told_29, e_B_told_32, e_B_told_33, e_B_told_34, e_B_told_37, e_B_told_38, e_B_told_39, e_B_told_40, e_B_told_41, e_B_told_44, e_B_told_47, e_B_told_48, e_B_told_49, e_B_told_50, e_B_told_53, e_B_told_54, e_B_told_55, e_B_told_56, e_B_told_57, e_B_told_60, e_B_told_63, e_B_told_64, e_B_told_65, e_B_told_68, K_B_isWithin, eq_true hb, eq_true ha, eq_false h0, eq_true h1, sh_o_0, (isW_at (g := g) isw).1, K_B_holding, K_B_isWarm, e, pm_opt_some, pm_opt_none, pm_opt_if, Bool.false_eq_true, Bool.not_false, Bool.not_true, if_false, if_true, true_and, and_true, true_or, or_true, not_true_eq_false, not_false_eq_true, q10, q00, q01, q11, pk_v, pk_i, pk_l, pk_r]
            rfl
          · obtain ⟨p', hp⟩ := M_sum (X := X) (g := g) (J := J) (which := 2) (hour := a) (Rel_WX hR1) (wmI_01 (I := I1) (h := a)) (by decide)
            refine ⟨_, sfr_98 (p := p'), K50 fun d' => ?_⟩
            show pm_V X (d' + 49) 137 0 [some (.ref 82), some (.int a), some (.int b)] [] (pm_S0 ++ g, I1, J) _
            have e := wm_eq (h := a) hR1
            have e2 : I1 82 10 = I1 1 11 := hR1.1.2.2.2.2
            simp only [e_M_told_0, e_M_told_1, e_M_told_2, e_M_told_3, e_M_told_4, e_M_told_7, e_M_told_10, e_M_told_13, e_M_told_14, e_M_told_15, e_M_told_16, e_M_told_17, e_M_told_20, e_M_told_23, e_M_told_26, e_M_told_29, e_M_told_30, e_M_told_31, e_M_told_34, e_M_told_35, e_M_told_36, e_M_told_39, e_M_told_40, e_M_told_41, e_M_told_42, e_M_told_45, e_M_told_48, e_M_told_51, e_M_told_52, e_M_told_53, e_M_told_56, e_M_told_57, e_M_told_58, e_M_told_59, e_M_told_62, e_M_told_63, e_M_told_64, e_M_told_65, e_M_told_68, e_M_told_71, e_M_told_74, e_M_told_75, e_M_told_78, K_M_in, eq_true hb, eq_true ha, eq_false h0, eq_true h1, sh_o_82, K_M_isWarm, e, e2, hp, pm_opt_some, pm_opt_none, pm_opt_if, Bool.false_eq_true, Bool.not_false, Bool.not_true, if_false, if_true, true_and, and_true, true_or, or_true, not_true_eq_false, not_false_eq_true, q10, q00, q01, q11, pk_v, pk_i, pk_l, pk_r]
            rw [sfr_hw h1', sfr_wm h1', sfr_ws h1' isw]
        · refine Pair_q (v := .int (wbI I (hwI I))) hR ⟨I, sfr_rf, K50 fun d' => ?_⟩ (fun I1 h1' hR1 => ⟨I1, sfr_rf, K50 fun d' => ?_⟩)
          · show pm_V X (d' + 49) 7 0 [some (.ref 0), some (.int a), some (.int b), none] [] (pm_S0 ++ g, I, J) _
            simp only [e_B_told_0, e_B_told_1, e_B_told_2, e_B_told_3, e_B_told_6, e_B_told_9, e_B_told_12, e_B_told_13, e_B_told_14, e_B_told_15, e_B_told_18, e_B_told_21, e_B_told_24, e_B_told_27, e_B_told_28, e_B_told_29, e_B_told_32, e_B_told_33, e_B_told_34, e_B_told_37, e_B_told_38, e_B_told_39, e_B_told_40, e_B_told_41, e_B_told_44, e_B_told_47, e_B_told_48, e_B_told_49, e_B_told_50, e_B_told_53, e_B_told_54, e_B_told_55, e_B_told_56, e_B_told_57, e_B_told_60, e_B_told_63, e_B_told_64, e_B_told_65, e_B_told_68, K_B_isWithin, eq_true hb, eq_true ha, eq_false h0, eq_false h1, sh_o_0, (isW_at (g := g) isw).1, K_B_holding, K_W_bearing (isW_at (g := g) isw) hok, pm_opt_some, pm_opt_none, pm_opt_if, Bool.false_eq_true, Bool.not_false, Bool.not_true, if_false, if_true, true_and, and_true, true_or, or_true, not_true_eq_false, not_false_eq_true, q10, q00, q01, q11, pk_v, pk_i, pk_l, pk_r]
          · show pm_V X (d' + 49) 137 0 [some (.ref 82), some (.int a), some (.int b)] [] (pm_S0 ++ g, I1, J) _
            have e2 : WX I1 (hwI I1) (I1 82 10) := by
              rw [hR1.1.2.2.2.2]
              exact Rel_WX hR1
            simp only [e_M_told_0, e_M_told_1, e_M_told_2, e_M_told_3, e_M_told_4, e_M_told_7, e_M_told_10, e_M_told_13, e_M_told_14, e_M_told_15, e_M_told_16, e_M_told_17, e_M_told_20, e_M_told_23, e_M_told_26, e_M_told_29, e_M_told_30, e_M_told_31, e_M_told_34, e_M_told_35, e_M_told_36, e_M_told_39, e_M_told_40, e_M_told_41, e_M_told_42, e_M_told_45, e_M_told_48, e_M_told_51, e_M_told_52, e_M_told_53, e_M_told_56, e_M_told_57, e_M_told_58, e_M_told_59, e_M_told_62, e_M_told_63, e_M_told_64, e_M_told_65, e_M_told_68, e_M_told_71, e_M_told_74, e_M_told_75, e_M_told_78, K_M_in, eq_true hb, eq_true ha, eq_false h0, eq_false h1, sh_o_82, K_M_bearsNow e2, pm_opt_some, pm_opt_none, pm_opt_if, Bool.false_eq_true, Bool.not_false, Bool.not_true, if_false, if_true, true_and, and_true, true_or, or_true, not_true_eq_false, not_false_eq_true, q10, q00, q01, q11, pk_v, pk_i, pk_l, pk_r]
            rw [sfr_hw h1', sfr_wb h1' isw]
    · exact Pair_q (v := .int (-1002)) hR ⟨I, sfr_rf, K50 fun d' => by { show pm_V X (d' + 49) 7 0 [some (.ref 0), some (.int a), some (.int b), none] [] (pm_S0 ++ g, I, J) _; simp only [e_B_told_0, e_B_told_1, e_B_told_2, e_B_told_3, e_B_told_6, e_B_told_9, e_B_told_12, e_B_told_13, e_B_told_14, e_B_told_15, e_B_told_18, e_B_told_21, e_B_told_24, e_B_told_27, e_B_told_28, e_B_told_29, e_B_told_32, e_B_told_33, e_B_told_34, e_B_told_37, e_B_told_38, e_B_told_39, e_B_told_40, e_B_told_41, e_B_told_44, e_B_told_47, e_B_told_48, e_B_told_49, e_B_told_50, e_B_told_53, e_B_told_54, e_B_told_55, e_B_told_56, e_B_told_57, e_B_told_60, e_B_told_63, e_B_told_64, e_B_told_65, e_B_told_68, K_B_isCell, K_B_isWithin, K_B_isTape, K_B_isKind, eq_true hb, eq_false ha, pm_opt_some, pm_opt_none, pm_opt_if, Bool.false_eq_true, Bool.not_false, Bool.not_true, if_false, if_true, true_and, and_true, true_or, or_true, not_true_eq_false, not_false_eq_true, q10, q00, q01, q11, pk_v, pk_i, pk_l, pk_r] }⟩ (fun I1 h1 hR1 => ⟨I1, sfr_rf, K50 fun d' => by { show pm_V X (d' + 49) 137 0 [some (.ref 82), some (.int a), some (.int b)] [] (pm_S0 ++ g, I1, J) _; simp only [e_M_told_0, e_M_told_1, e_M_told_2, e_M_told_3, e_M_told_4, e_M_told_7, e_M_told_10, e_M_told_13, e_M_told_14, e_M_told_15, e_M_told_16, e_M_told_17, e_M_told_20, e_M_told_23, e_M_told_26, e_M_told_29, e_M_told_30, e_M_told_31, e_M_told_34, e_M_told_35, e_M_told_36, e_M_told_39, e_M_told_40, e_M_told_41, e_M_told_42, e_M_told_45, e_M_told_48, e_M_told_51, e_M_told_52, e_M_told_53, e_M_told_56, e_M_told_57, e_M_told_58, e_M_told_59, e_M_told_62, e_M_told_63, e_M_told_64, e_M_told_65, e_M_told_68, e_M_told_71, e_M_told_74, e_M_told_75, e_M_told_78, sh_o_82, K_M_isCell, K_M_in, K_M_isTape, eq_true hb, eq_false ha, pm_opt_some, pm_opt_none, pm_opt_if, Bool.false_eq_true, Bool.not_false, Bool.not_true, if_false, if_true, true_and, and_true, true_or, or_true, not_true_eq_false, not_false_eq_true, q10, q00, q01, q11, pk_v, pk_i, pk_l, pk_r] }⟩)
  · exact Pair_q (v := .int (-1001)) hR ⟨I, sfr_rf, K50 fun d' => by { show pm_V X (d' + 49) 7 0 [some (.ref 0), some (.int a), some (.int b), none] [] (pm_S0 ++ g, I, J) _; simp only [e_B_told_0, e_B_told_1, e_B_told_2, e_B_told_3, e_B_told_6, e_B_told_9, e_B_told_12, e_B_told_13, e_B_told_14, e_B_told_15, e_B_told_18, e_B_told_21, e_B_told_24, e_B_told_27, e_B_told_28, e_B_told_29, e_B_told_32, e_B_told_33, e_B_told_34, e_B_told_37, e_B_told_38, e_B_told_39, e_B_told_40, e_B_told_41, e_B_told_44, e_B_told_47, e_B_told_48, e_B_told_49, e_B_told_50, e_B_told_53, e_B_told_54, e_B_told_55, e_B_told_56, e_B_told_57, e_B_told_60, e_B_told_63, e_B_told_64, e_B_told_65, e_B_told_68, K_B_isCell, K_B_isWithin, K_B_isTape, K_B_isKind, eq_false hb, pm_opt_some, pm_opt_none, pm_opt_if, Bool.false_eq_true, Bool.not_false, Bool.not_true, if_false, if_true, true_and, and_true, true_or, or_true, not_true_eq_false, not_false_eq_true, q10, q00, q01, q11, pk_v, pk_i, pk_l, pk_r] }⟩ (fun I1 h1 hR1 => ⟨I1, sfr_rf, K50 fun d' => by { show pm_V X (d' + 49) 137 0 [some (.ref 82), some (.int a), some (.int b)] [] (pm_S0 ++ g, I1, J) _; simp only [e_M_told_0, e_M_told_1, e_M_told_2, e_M_told_3, e_M_told_4, e_M_told_7, e_M_told_10, e_M_told_13, e_M_told_14, e_M_told_15, e_M_told_16, e_M_told_17, e_M_told_20, e_M_told_23, e_M_told_26, e_M_told_29, e_M_told_30, e_M_told_31, e_M_told_34, e_M_told_35, e_M_told_36, e_M_told_39, e_M_told_40, e_M_told_41, e_M_told_42, e_M_told_45, e_M_told_48, e_M_told_51, e_M_told_52, e_M_told_53, e_M_told_56, e_M_told_57, e_M_told_58, e_M_told_59, e_M_told_62, e_M_told_63, e_M_told_64, e_M_told_65, e_M_told_68, e_M_told_71, e_M_told_74, e_M_told_75, e_M_told_78, sh_o_82, K_M_isCell, K_M_in, K_M_isTape, eq_false hb, pm_opt_some, pm_opt_none, pm_opt_if, Bool.false_eq_true, Bool.not_false, Bool.not_true, if_false, if_true, true_and, and_true, true_or, or_true, not_true_eq_false, not_false_eq_true, q10, q00, q01, q11, pk_v, pk_i, pk_l, pk_r] }⟩)
theorem Pair_cold (hR : Rel I J) : Pair X 10 141 [.int c] g I J := by
  by_cases hc : 0 ≤ c ∧ c ≤ 15
  · have hX := Rel_WX hR
    have hok := WX_ok hX
    have isw := WX_is hX
    obtain ⟨j, hj, rfl⟩ := in_of (m := 15) rfl hc
    refine Pair_q (v := .int (coldI (I 7 j) (I 8 j) (I 1 4) (frI I (hwI I) (I 1 4) (wmI I (I 1 4))))) hR ⟨I, sfr_rf, K50 fun d' => ?_⟩ (fun I1 h1 hR1 => ?_)
    · show pm_V X (d' + 49) 10 0 [some (.ref 0), some (.int (nI j))] [] (pm_S0 ++ g, I, J) _
      have e := fun (d : Nat) (P : pm_O → Prop) => K_W_frost (X := X) (d := d) (P := P) (J := J) (hour := I 1 4) (isW_at (g := g) isw) hok (wmI_01 (I := I) (h := I 1 4))
      unfold wmI at e
      simp only [e_B_cold_0, e_B_cold_1, e_B_cold_4, e_B_cold_7, e_B_cold_10, e_B_cold_11, e_B_cold_12, e_B_cold_15, e_B_cold_16, e_B_cold_17, e_B_cold_20, e_B_cold_23, e_B_cold_24, e_B_cold_27, e_B_cold_28, e_B_cold_31, e_B_cold_34, e_B_cold_35, e_B_cold_36, e_B_cold_39, e_B_cold_42, e_B_cold_45, e_B_cold_48, e_B_cold_51, K_B_isCell, eq_true hc, sh_o_0, sh_o_1, sh_r_0_0, (isW_at (g := g) isw).1, K_B_holding, K_B_isWarm, e, K_P_coldOf (show j < 16 by omega), pm_opt_some, pm_opt_none, pm_opt_if, Bool.false_eq_true, Bool.not_false, Bool.not_true, if_false, if_true, true_and, and_true, true_or, or_true, not_true_eq_false, not_false_eq_true, q10, q00, q01, q11, pk_v, pk_i, pk_l, pk_r]
      rfl
    · have hR2 : Rel (pm_w I1 82 27 (-1)) J := Rel_sfr (sfr_w82 (by decide)) (fun _ _ => rfl) hR1
      have h2 : sfr I (pm_w I1 82 27 (-1)) := sfr_tr h1 (sfr_w82 (by decide))
      obtain ⟨p', hp⟩ := M_frost (X := X) (g := g) (J := J) (hour := I 1 4) (Rel_WX hR2) (wmI_01 (I := pm_w I1 82 27 (-1)) (h := I 1 4))
      refine ⟨_, sfr_tr (sfr_w82 (k := 27) (v := -1) (by decide)) (sfr_98 (p := p')), K50 fun d' => ?_⟩
      show pm_V X (d' + 49) 141 0 [some (.ref 82), some (.int (nI j))] [] (pm_S0 ++ g, I1, J) _
      have e := wm_eq (h := I 1 4) hR2
      have e1 : I1 82 0 = I 1 4 := hR1.1.2.1.trans (by rw [sfr_at h1 (q := 1) (by decide)])
      have e2 : I1 82 10 = pm_w I1 82 27 (-1) 1 11 := hR1.1.2.2.2.2.trans (by rw [pw_ne (by decide)])
      have e3 : pm_up (pm_w I1 82 27 (-1)) 98 p' 87 = pm_up (pm_w I1 82 27 (-1)) 98 p' 7 := by
        simp only [pw_eq, pw_ne, pu_eq, pu_ne, upd_app, Nat.reduceEqDiff, not_false_eq_true, if_false, if_true]
        exact hR1.1.1.2.2.2.2.1
      have e4 : pm_up (pm_w I1 82 27 (-1)) 98 p' 88 = pm_up (pm_w I1 82 27 (-1)) 98 p' 8 := by
        simp only [pw_eq, pw_ne, pu_eq, pu_ne, upd_app, Nat.reduceEqDiff, not_false_eq_true, if_false, if_true]
        exact hR1.1.1.2.2.2.2.2.1
      have e5 : ltI (pm_up (pm_w I1 82 27 (-1)) 98 p') j = 0 := by
        unfold ltI
        simp only [pw_eq, pw_ne, pu_eq, pu_ne, upd_app, Nat.reduceEqDiff, not_false_eq_true, if_false, if_true]
        rw [if_pos (by decide)]
      have ew : pm_w I1 82 27 (-1) 82 = upd (I1 82) 27 (-1) := pw_eq
      rw [ew] at e
      simp only [upd_app, Nat.reduceEqDiff, if_false] at e
      simp only [e_M_cold_0, e_M_cold_1, e_M_cold_2, e_M_cold_5, e_M_cold_8, e_M_cold_11, e_M_cold_12, e_M_cold_13, e_M_cold_14, e_M_cold_17, e_M_cold_18, e_M_cold_19, e_M_cold_20, e_M_cold_23, e_M_cold_24, e_M_cold_25, e_M_cold_28, e_M_cold_29, e_M_cold_32, e_M_cold_33, e_M_cold_34, e_M_cold_37, e_M_cold_40, e_M_cold_43, e_M_cold_46, K_M_isCell, eq_true hc, sh_o_82, K_M_isWarm, ew, upd_app, Nat.reduceEqDiff, e1, e, e2, hp, K_M_coldOf e3 e4 (show j < 16 by omega), e5, pm_opt_some, pm_opt_none, pm_opt_if, Bool.false_eq_true, Bool.not_false, Bool.not_true, if_false, if_true, true_and, and_true, true_or, or_true, not_true_eq_false, not_false_eq_true, q10, q00, q01, q11, pk_v, pk_i, pk_l, pk_r]
      rw [sfr_hw h2, sfr_wm h2, sfr_fr h2 isw]
      simp only [pw_eq, pw_ne, pu_eq, pu_ne, upd_app, Nat.reduceEqDiff, not_false_eq_true, if_false, if_true, Int32.sub_zero, sfr_at h1 (q := 7) (by decide), sfr_at h1 (q := 8) (by decide)]
  · exact Pair_q (v := .int (-1001)) hR ⟨I, sfr_rf, K50 fun d' => by { show pm_V X (d' + 49) 10 0 [some (.ref 0), some (.int c)] [] (pm_S0 ++ g, I, J) _; simp only [e_B_cold_0, e_B_cold_1, e_B_cold_4, e_B_cold_7, e_B_cold_10, e_B_cold_11, e_B_cold_12, e_B_cold_15, e_B_cold_16, e_B_cold_17, e_B_cold_20, e_B_cold_23, e_B_cold_24, e_B_cold_27, e_B_cold_28, e_B_cold_31, e_B_cold_34, e_B_cold_35, e_B_cold_36, e_B_cold_39, e_B_cold_42, e_B_cold_45, e_B_cold_48, e_B_cold_51, K_B_isCell, K_B_isWithin, K_B_isTape, K_B_isKind, eq_false hc, pm_opt_some, pm_opt_none, pm_opt_if, Bool.false_eq_true, Bool.not_false, Bool.not_true, if_false, if_true, true_and, and_true, true_or, or_true, not_true_eq_false, not_false_eq_true, q10, q00, q01, q11, pk_v, pk_i, pk_l, pk_r] }⟩ (fun I1 h1 hR1 => ⟨I1, sfr_rf, K50 fun d' => by { show pm_V X (d' + 49) 141 0 [some (.ref 82), some (.int c)] [] (pm_S0 ++ g, I1, J) _; simp only [e_M_cold_0, e_M_cold_1, e_M_cold_2, e_M_cold_5, e_M_cold_8, e_M_cold_11, e_M_cold_12, e_M_cold_13, e_M_cold_14, e_M_cold_17, e_M_cold_18, e_M_cold_19, e_M_cold_20, e_M_cold_23, e_M_cold_24, e_M_cold_25, e_M_cold_28, e_M_cold_29, e_M_cold_32, e_M_cold_33, e_M_cold_34, e_M_cold_37, e_M_cold_40, e_M_cold_43, e_M_cold_46, sh_o_82, K_M_isCell, K_M_in, K_M_isTape, eq_false hc, pm_opt_some, pm_opt_none, pm_opt_if, Bool.false_eq_true, Bool.not_false, Bool.not_true, if_false, if_true, true_and, and_true, true_or, or_true, not_true_eq_false, not_false_eq_true, q10, q00, q01, q11, pk_v, pk_i, pk_l, pk_r] }⟩)
end P37
