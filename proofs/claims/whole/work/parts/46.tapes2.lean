/-! pairs of calls: item, read, judge, shift -/
/-- JUDGED, from a place on -/
def jdA (f h : Nat → Int64) (l j : Nat) : Nat → Nat → Int32
  | _, 0 => -5
  | k, n + 1 => if l ≤ j + k then nI (100 + k) else if lg_cmp (f (j + k)) (h k) = 0 then jdA f h l j (k + 1) n else nI k
section P46
variable {X : pm_X} {d : Nat} {P Q : pm_O → Prop} {g : List pm_S} {S : List pm_S} {I I' I1 B : Nat → Nat → Int32} {J J' : Nat → Nat → Int64} {j w t l : Nat} {c a b s n k i : Int32} {v : Int64} {fi : Int32} {p : Nat → Int32}
theorem Rel_J (hR : Rel I J) (hT : RT I J') : Rel I J' := ⟨hR.1, hR.2.1, hR.2.2.1, hR.2.2.2.1, hR.2.2.2.2.1, hR.2.2.2.2.2.1, hR.2.2.2.2.2.2.1, hT⟩
theorem len_in (hl : l ≤ 60) (h : 0 ≤ i ∧ i ≤ nI l - 1) : ∃ j, j < l ∧ i = nI j := by
  obtain ⟨j, hj, rfl⟩ := nI_of (Int32.not_lt.mpr h.1)
  refine ⟨j, ?_, rfl⟩
  have h2 := h.2
  have e : (nI l - 1).toInt = (l : Int) - 1 := by rw [i_sub (by rw [nI_toInt (by omega), k1]; omega) (by rw [nI_toInt (by omega), k1]; omega), nI_toInt (by omega), k1]
  rw [i_le, nI_toInt hj, e] at h2
  omega
theorem RT_item {x : Int64} (hR : RT I J) (ht : t < 6) (hj : j < 60) : RT I (pm_wJ (pm_wJ J (71 + 2 * t) j x) 121 (60 * t + j) x) := by
  intro u hu
  obtain ⟨h1, h2, h3, h4, h5⟩ := hR u hu
  refine ⟨h1, h2, h3, h4, fun k hk => ?_⟩
  have n5 : ¬ 71 + 2 * u = 121 := by omega
  have n6 : ¬ 121 = 71 + 2 * t := by omega
  rw [pwJ_eq, pwJ_ne n5]
  unfold pm_wJ pm_upJ vp_updL
  rw [if_neg n6]
  by_cases e : u = t
  · subst e
    rw [if_pos rfl]
    by_cases e2 : k = j
    · subst e2
      rw [if_pos rfl, if_pos rfl]
    · rw [if_neg (by omega), if_neg e2]
      exact h5 k hk
  · have e3 : ¬ 71 + 2 * u = 71 + 2 * t := by omega
    rw [if_neg e3]
    rw [if_neg (by omega)]
    exact h5 k hk
theorem Pair_item (hR : Rel I J) : Pair X 33 189 [.int a, .int i, .long v] g I J := by
  by_cases ha : 0 ≤ a ∧ a ≤ 5
  · obtain ⟨t, ht, rfl⟩ := in_of (m := 5) rfl ha
    have ht' : t < 6 := by omega
    have bt := bad_nI (k := t) (n := 6) ht' (by decide)
    have ct := nI_clamp (n := t) (by omega)
    obtain ⟨e1, e2, ⟨l, hl, e3⟩, e4, e5⟩ := hR.2.2.2.2.2.2.2 t ht'
    rcases e4 with ⟨e4, e4'⟩ | ⟨s, hs, e4⟩
    · have z : ((-1 : Int32) < 0) = True := by decide
      have z2 : ((0 : Int32) ≤ -1) = False := by decide
      refine Pair_q (v := .int (-11)) hR ⟨I, sfr_rf, K50 fun d' => ?_⟩ (fun I1 h1 hR1 => ⟨I1, sfr_rf, K50 fun d' => ?_⟩)
      · show pm_V X (d' + 49) 33 0 [some (.ref 0), some (.int (nI t)), some (.int i), some (.long v), none, none] [] (pm_S0 ++ g, I, J) _
        simp only [e_B_item_0, e_B_item_1, e_B_item_4, e_B_item_7, e_B_item_8, e_B_item_9, e_B_item_10, e_B_item_13, e_B_item_14, e_B_item_15, e_B_item_17, e_B_item_19, e_B_item_22, e_B_item_23, e_B_item_26, e_B_item_28, e_B_item_29, e_B_item_30, e_B_item_31, e_B_item_33, e_B_item_36, e_B_item_37, e_B_item_38, e_B_item_41, e_B_item_44, e_B_item_46, e_B_item_47, e_B_item_49, e_B_item_52, e_B_item_53, e_B_item_55, e_B_item_56, e_B_item_59, e_B_item_60, e_B_item_61, K_B_isTape, eq_true ha, sh_r_0_8, tp_a ht', tp_o ht', e4, pm_opt_some, pm_opt_none, pm_opt_if, Bool.false_eq_true, Bool.not_false, Bool.not_true, if_false, if_true, true_and, and_true, true_or, or_true, not_true_eq_false, not_false_eq_true, q10, q00, q01, q11, pk_v, pk_i, pk_l, pk_r]
      · have e1' : I1 119 t = -1 := by
          rw [(hR1.2.2.2.2.2.2.2 t ht').1, sfr_at h1 (by unfold SL; simp; omega)]
          exact e4
        show pm_V X (d' + 49) 189 0 [some (.ref 82), some (.int (nI t)), some (.int i), some (.long v), none] [] (pm_S0 ++ g, I1, J) _
        simp only [e_M_item_0, e_M_item_1, e_M_item_2, e_M_item_5, e_M_item_8, e_M_item_9, e_M_item_10, e_M_item_11, e_M_item_14, e_M_item_15, e_M_item_16, e_M_item_19, e_M_item_21, e_M_item_22, e_M_item_23, e_M_item_24, e_M_item_25, e_M_item_26, e_M_item_29, e_M_item_30, e_M_item_31, e_M_item_32, e_M_item_33, e_M_item_36, e_M_item_39, e_M_item_41, e_M_item_42, e_M_item_43, e_M_item_46, e_M_item_48, e_M_item_49, e_M_item_50, e_M_item_51, e_M_item_52, e_M_item_53, e_M_item_54, e_M_item_57, e_M_item_58, e_M_item_59, e_M_item_60, e_M_item_63, e_M_item_64, e_M_item_65, sh_o_82, K_M_isTape, eq_true ha, sh_r_82_55, sh_i_119, bt, ct, e1', z2, pm_opt_some, pm_opt_none, pm_opt_if, Bool.false_eq_true, Bool.not_false, Bool.not_true, if_false, if_true, true_and, and_true, true_or, or_true, not_true_eq_false, not_false_eq_true, q10, q00, q01, q11, pk_v, pk_i, pk_l, pk_r]
    · have z1 : (nI s = -1) = False := eq_false (fun e => by
        rw [i_eq, nI_toInt (by omega), show (-1 : Int32).toInt = -1 from rfl] at e
        omega)
      have z2 : ((0 : Int32) ≤ nI s) = True := eq_true (nI_pos' (by omega))
      by_cases hi : 0 ≤ i ∧ i ≤ nI l - 1
      · obtain ⟨j, hj, rfl⟩ := len_in hl hi
        have bj := bad_nI (k := j) (n := 60) (by omega) (by decide)
        have cj := nI_clamp (n := j) (by omega)
        have bk := bad_nI (k := 60 * t + j) (n := 360) (by omega) (by decide)
        have ck := nI_clamp (n := 60 * t + j) (by omega)
        have m60 : (60 : Int32) * nI t = nI (60 * t) := pk_mul 60 t
        refine ⟨.int 1, g, I, pm_wJ J (71 + 2 * t) j (fitL (nI s) v), I, pm_wJ (pm_wJ J (71 + 2 * t) j (fitL (nI s) v)) 121 (60 * t + j) (fitL (nI s) v), ?_, Or.inl rfl, rfl, K50 fun d' => ?_, K50 fun d' => ?_⟩
        · exact Rel_J hR (RT_item hR.2.2.2.2.2.2.2 ht' (by omega))
        · show pm_V X (d' + 49) 33 0 [some (.ref 0), some (.int (nI t)), some (.int (nI j)), some (.long v), none, none] [] (pm_S0 ++ g, I, J) _
          simp only [e_B_item_0, e_B_item_1, e_B_item_4, e_B_item_7, e_B_item_8, e_B_item_9, e_B_item_10, e_B_item_13, e_B_item_14, e_B_item_15, e_B_item_17, e_B_item_19, e_B_item_22, e_B_item_23, e_B_item_26, e_B_item_28, e_B_item_29, e_B_item_30, e_B_item_31, e_B_item_33, e_B_item_36, e_B_item_37, e_B_item_38, e_B_item_41, e_B_item_44, e_B_item_46, e_B_item_47, e_B_item_49, e_B_item_52, e_B_item_53, e_B_item_55, e_B_item_56, e_B_item_59, e_B_item_60, e_B_item_61, K_B_isTape, K_B_isWithin, eq_true ha, sh_r_0_8, tp_a ht', tp_o ht', tp_r ht', e4, e3, z1, eq_true hi, K_T_fitting hs ht' e4, ow_of (tp_s ht'), bj, cj, pm_opt_some, pm_opt_none, pm_opt_if, Bool.false_eq_true, Bool.not_false, Bool.not_true, if_false, if_true, true_and, and_true, true_or, or_true, not_true_eq_false, not_false_eq_true, q10, q00, q01, q11, pk_v, pk_i, pk_l, pk_r]
        · rw [e4] at e1
          rw [e3] at e2
          show pm_V X (d' + 49) 189 0 [some (.ref 82), some (.int (nI t)), some (.int (nI j)), some (.long v), none] [] (pm_S0 ++ g, I, _) _
          simp only [e_M_item_0, e_M_item_1, e_M_item_2, e_M_item_5, e_M_item_8, e_M_item_9, e_M_item_10, e_M_item_11, e_M_item_14, e_M_item_15, e_M_item_16, e_M_item_19, e_M_item_21, e_M_item_22, e_M_item_23, e_M_item_24, e_M_item_25, e_M_item_26, e_M_item_29, e_M_item_30, e_M_item_31, e_M_item_32, e_M_item_33, e_M_item_36, e_M_item_39, e_M_item_41, e_M_item_42, e_M_item_43, e_M_item_46, e_M_item_48, e_M_item_49, e_M_item_50, e_M_item_51, e_M_item_52, e_M_item_53, e_M_item_54, e_M_item_57, e_M_item_58, e_M_item_59, e_M_item_60, e_M_item_63, e_M_item_64, e_M_item_65, sh_o_82, K_M_isTape, K_M_in, eq_true ha, sh_r_82_55, sh_r_82_56, sh_r_82_57, sh_i_119, sh_i_120, sh_w_121, bt, ct, e1, e2, z2, eq_true hi, m60, nI_add, bk, ck, K_M_narrow hs, pm_opt_some, pm_opt_none, pm_opt_if, Bool.false_eq_true, Bool.not_false, Bool.not_true, if_false, if_true, true_and, and_true, true_or, or_true, not_true_eq_false, not_false_eq_true, q10, q00, q01, q11, pk_v, pk_i, pk_l, pk_r]
      · refine Pair_q (v := .int (-13)) hR ⟨I, sfr_rf, K50 fun d' => ?_⟩ (fun I1 h1 hR1 => ⟨I1, sfr_rf, K50 fun d' => ?_⟩)
        · show pm_V X (d' + 49) 33 0 [some (.ref 0), some (.int (nI t)), some (.int i), some (.long v), none, none] [] (pm_S0 ++ g, I, J) _
          simp only [e_B_item_0, e_B_item_1, e_B_item_4, e_B_item_7, e_B_item_8, e_B_item_9, e_B_item_10, e_B_item_13, e_B_item_14, e_B_item_15, e_B_item_17, e_B_item_19, e_B_item_22, e_B_item_23, e_B_item_26, e_B_item_28, e_B_item_29, e_B_item_30, e_B_item_31, e_B_item_33, e_B_item_36, e_B_item_37, e_B_item_38, e_B_item_41, e_B_item_44, e_B_item_46, e_B_item_47, e_B_item_49, e_B_item_52, e_B_item_53, e_B_item_55, e_B_item_56, e_B_item_59, e_B_item_60, e_B_item_61, K_B_isTape, K_B_isWithin, eq_true ha, sh_r_0_8, tp_a ht', tp_o ht', e4, e3, z1, eq_false hi, pm_opt_some, pm_opt_none, pm_opt_if, Bool.false_eq_true, Bool.not_false, Bool.not_true, if_false, if_true, true_and, and_true, true_or, or_true, not_true_eq_false, not_false_eq_true, q10, q00, q01, q11, pk_v, pk_i, pk_l, pk_r]
        · have e1' : I1 119 t = nI s := by
            rw [(hR1.2.2.2.2.2.2.2 t ht').1, sfr_at h1 (by unfold SL; simp; omega)]
            exact e4
          have e2' : I1 120 t = nI l := by
            rw [(hR1.2.2.2.2.2.2.2 t ht').2.1, sfr_at h1 (by unfold SL; simp; omega)]
            exact e3
          show pm_V X (d' + 49) 189 0 [some (.ref 82), some (.int (nI t)), some (.int i), some (.long v), none] [] (pm_S0 ++ g, I1, J) _
          simp only [e_M_item_0, e_M_item_1, e_M_item_2, e_M_item_5, e_M_item_8, e_M_item_9, e_M_item_10, e_M_item_11, e_M_item_14, e_M_item_15, e_M_item_16, e_M_item_19, e_M_item_21, e_M_item_22, e_M_item_23, e_M_item_24, e_M_item_25, e_M_item_26, e_M_item_29, e_M_item_30, e_M_item_31, e_M_item_32, e_M_item_33, e_M_item_36, e_M_item_39, e_M_item_41, e_M_item_42, e_M_item_43, e_M_item_46, e_M_item_48, e_M_item_49, e_M_item_50, e_M_item_51, e_M_item_52, e_M_item_53, e_M_item_54, e_M_item_57, e_M_item_58, e_M_item_59, e_M_item_60, e_M_item_63, e_M_item_64, e_M_item_65, sh_o_82, K_M_isTape, K_M_in, eq_true ha, sh_r_82_55, sh_r_82_56, sh_i_119, sh_i_120, bt, ct, e1', e2', z2, eq_false hi, pm_opt_some, pm_opt_none, pm_opt_if, Bool.false_eq_true, Bool.not_false, Bool.not_true, if_false, if_true, true_and, and_true, true_or, or_true, not_true_eq_false, not_false_eq_true, q10, q00, q01, q11, pk_v, pk_i, pk_l, pk_r]
  · refine Pair_q (v := .int (-1)) hR ⟨I, sfr_rf, K50 fun d' => ?_⟩ (fun I1 h1 hR1 => ⟨I1, sfr_rf, K50 fun d' => ?_⟩)
    · show pm_V X (d' + 49) 33 0 [some (.ref 0), some (.int a), some (.int i), some (.long v), none, none] [] (pm_S0 ++ g, I, J) _
      simp only [e_B_item_0, e_B_item_1, e_B_item_4, e_B_item_7, e_B_item_8, e_B_item_9, e_B_item_10, e_B_item_13, e_B_item_14, e_B_item_15, e_B_item_17, e_B_item_19, e_B_item_22, e_B_item_23, e_B_item_26, e_B_item_28, e_B_item_29, e_B_item_30, e_B_item_31, e_B_item_33, e_B_item_36, e_B_item_37, e_B_item_38, e_B_item_41, e_B_item_44, e_B_item_46, e_B_item_47, e_B_item_49, e_B_item_52, e_B_item_53, e_B_item_55, e_B_item_56, e_B_item_59, e_B_item_60, e_B_item_61, K_B_isTape, eq_false ha, pm_opt_some, pm_opt_none, pm_opt_if, Bool.false_eq_true, Bool.not_false, Bool.not_true, if_false, if_true, true_and, and_true, true_or, or_true, not_true_eq_false, not_false_eq_true, q10, q00, q01, q11, pk_v, pk_i, pk_l, pk_r]
    · show pm_V X (d' + 49) 189 0 [some (.ref 82), some (.int a), some (.int i), some (.long v), none] [] (pm_S0 ++ g, I1, J) _
      simp only [e_M_item_0, e_M_item_1, e_M_item_2, e_M_item_5, e_M_item_8, e_M_item_9, e_M_item_10, e_M_item_11, e_M_item_14, e_M_item_15, e_M_item_16, e_M_item_19, e_M_item_21, e_M_item_22, e_M_item_23, e_M_item_24, e_M_item_25, e_M_item_26, e_M_item_29, e_M_item_30, e_M_item_31, e_M_item_32, e_M_item_33, e_M_item_36, e_M_item_39, e_M_item_41, e_M_item_42, e_M_item_43, e_M_item_46, e_M_item_48, e_M_item_49, e_M_item_50, e_M_item_51, e_M_item_52, e_M_item_53, e_M_item_54, e_M_item_57, e_M_item_58, e_M_item_59, e_M_item_60, e_M_item_63, e_M_item_64, e_M_item_65, sh_o_82, K_M_isTape, eq_false ha, pm_opt_some, pm_opt_none, pm_opt_if, Bool.false_eq_true, Bool.not_false, Bool.not_true, if_false, if_true, true_and, and_true, true_or, or_true, not_true_eq_false, not_false_eq_true, q10, q00, q01, q11, pk_v, pk_i, pk_l, pk_r]
theorem Pair_read (hR : Rel I J) : Pair X 34 190 [.int a, .int i] g I J := by
  by_cases ha : 0 ≤ a ∧ a ≤ 5
  · obtain ⟨t, ht, rfl⟩ := in_of (m := 5) rfl ha
    have ht' : t < 6 := by omega
    have bt := bad_nI (k := t) (n := 6) ht' (by decide)
    have ct := nI_clamp (n := t) (by omega)
    obtain ⟨e1, e2, ⟨l, hl, e3⟩, e4, e5⟩ := hR.2.2.2.2.2.2.2 t ht'
    have r1 : ∀ I1, sfr I I1 → Rel I1 J → I1 119 t = I (70 + 2 * t) 0 := fun I1 h1 hR1 => by rw [(hR1.2.2.2.2.2.2.2 t ht').1, sfr_at h1 (by unfold SL; simp; omega)]
    have r2 : ∀ I1, sfr I I1 → Rel I1 J → I1 120 t = nI l := fun I1 h1 hR1 => by
      rw [(hR1.2.2.2.2.2.2.2 t ht').2.1, sfr_at h1 (by unfold SL; simp; omega)]
      exact e3
    by_cases hi : 0 ≤ i ∧ i ≤ nI l - 1
    · obtain ⟨j, hj, rfl⟩ := len_in hl hi
      rcases e4 with ⟨e4, e4'⟩ | ⟨s, hs, e4⟩
      · have : l = 0 := (nI_eq (by omega) (by decide)).mp (e3.symm.trans e4')
        omega
      · have z2 : (nI s < 0) = False := eq_false (nI_pos (by omega))
        have bj := bad_nI (k := j) (n := 60) (by omega) (by decide)
        have cj := nI_clamp (n := j) (by omega)
        have bk := bad_nI (k := 60 * t + j) (n := 360) (by omega) (by decide)
        have ck := nI_clamp (n := 60 * t + j) (by omega)
        have m60 : (60 : Int32) * nI t = nI (60 * t) := pk_mul 60 t
        refine Pair_q (v := .long (J (71 + 2 * t) j)) hR ⟨I, sfr_rf, K50 fun d' => ?_⟩ (fun I1 h1 hR1 => ⟨I1, sfr_rf, K50 fun d' => ?_⟩)
        · show pm_V X (d' + 49) 34 0 [some (.ref 0), some (.int (nI t)), some (.int (nI j)), none] [] (pm_S0 ++ g, I, J) _
          simp only [e_B_read_0, e_B_read_1, e_B_read_4, e_B_read_7, e_B_read_10, e_B_read_11, e_B_read_12, e_B_read_15, e_B_read_16, e_B_read_17, e_B_read_18, e_B_read_19, e_B_read_20, e_B_read_21, e_B_read_24, e_B_read_25, e_B_read_26, e_B_read_29, e_B_read_32, e_B_read_35, e_B_read_36, e_B_read_37, e_B_read_40, e_B_read_41, e_B_read_42, K_B_isTape, K_B_isWithin, eq_true ha, sh_r_0_8, tp_a ht', tp_o ht', tp_r ht', e3, eq_true hi, la_of (tp_s ht'), bj, cj, pm_opt_some, pm_opt_none, pm_opt_if, Bool.false_eq_true, Bool.not_false, Bool.not_true, if_false, if_true, true_and, and_true, true_or, or_true, not_true_eq_false, not_false_eq_true, q10, q00, q01, q11, pk_v, pk_i, pk_l, pk_r]
        · show pm_V X (d' + 49) 190 0 [some (.ref 82), some (.int (nI t)), some (.int (nI j))] [] (pm_S0 ++ g, I1, J) _
          simp only [e_M_read_0, e_M_read_1, e_M_read_2, e_M_read_5, e_M_read_8, e_M_read_9, e_M_read_12, e_M_read_13, e_M_read_14, e_M_read_17, e_M_read_18, e_M_read_19, e_M_read_20, e_M_read_21, e_M_read_24, e_M_read_25, e_M_read_26, e_M_read_27, e_M_read_28, e_M_read_31, e_M_read_34, e_M_read_37, e_M_read_40, e_M_read_41, e_M_read_44, e_M_read_46, e_M_read_47, e_M_read_48, e_M_read_49, e_M_read_50, e_M_read_51, sh_o_82, K_M_isTape, K_M_in, eq_true ha, sh_r_82_55, sh_r_82_56, sh_r_82_57, sh_i_119, sh_i_120, sh_i_121, bt, ct, r1 I1 h1 hR1, r2 I1 h1 hR1, e4, z2, eq_true hi, m60, nI_add, bk, ck, e5 j (by omega), pm_opt_some, pm_opt_none, pm_opt_if, Bool.false_eq_true, Bool.not_false, Bool.not_true, if_false, if_true, true_and, and_true, true_or, or_true, not_true_eq_false, not_false_eq_true, q10, q00, q01, q11, pk_v, pk_i, pk_l, pk_r]
    · refine Pair_q (v := .long (-9223372036854775808)) hR ⟨I, sfr_rf, K50 fun d' => ?_⟩ (fun I1 h1 hR1 => ⟨I1, sfr_rf, K50 fun d' => ?_⟩)
      · show pm_V X (d' + 49) 34 0 [some (.ref 0), some (.int (nI t)), some (.int i), none] [] (pm_S0 ++ g, I, J) _
        simp only [e_B_read_0, e_B_read_1, e_B_read_4, e_B_read_7, e_B_read_10, e_B_read_11, e_B_read_12, e_B_read_15, e_B_read_16, e_B_read_17, e_B_read_18, e_B_read_19, e_B_read_20, e_B_read_21, e_B_read_24, e_B_read_25, e_B_read_26, e_B_read_29, e_B_read_32, e_B_read_35, e_B_read_36, e_B_read_37, e_B_read_40, e_B_read_41, e_B_read_42, K_B_isTape, K_B_isWithin, eq_true ha, sh_r_0_8, tp_a ht', tp_o ht', e3, eq_false hi, pm_opt_some, pm_opt_none, pm_opt_if, Bool.false_eq_true, Bool.not_false, Bool.not_true, if_false, if_true, true_and, and_true, true_or, or_true, not_true_eq_false, not_false_eq_true, q10, q00, q01, q11, pk_v, pk_i, pk_l, pk_r]
      · show pm_V X (d' + 49) 190 0 [some (.ref 82), some (.int (nI t)), some (.int i)] [] (pm_S0 ++ g, I1, J) _
        by_cases z : I (70 + 2 * t) 0 < 0
        · simp only [e_M_read_0, e_M_read_1, e_M_read_2, e_M_read_5, e_M_read_8, e_M_read_9, e_M_read_12, e_M_read_13, e_M_read_14, e_M_read_17, e_M_read_18, e_M_read_19, e_M_read_20, e_M_read_21, e_M_read_24, e_M_read_25, e_M_read_26, e_M_read_27, e_M_read_28, e_M_read_31, e_M_read_34, e_M_read_37, e_M_read_40, e_M_read_41, e_M_read_44, e_M_read_46, e_M_read_47, e_M_read_48, e_M_read_49, e_M_read_50, e_M_read_51, sh_o_82, K_M_isTape, K_M_in, eq_true ha, sh_r_82_55, sh_i_119, bt, ct, r1 I1 h1 hR1, z, pm_opt_some, pm_opt_none, pm_opt_if, Bool.false_eq_true, Bool.not_false, Bool.not_true, if_false, if_true, true_and, and_true, true_or, or_true, not_true_eq_false, not_false_eq_true, q10, q00, q01, q11, pk_v, pk_i, pk_l, pk_r]
        · simp only [e_M_read_0, e_M_read_1, e_M_read_2, e_M_read_5, e_M_read_8, e_M_read_9, e_M_read_12, e_M_read_13, e_M_read_14, e_M_read_17, e_M_read_18, e_M_read_19, e_M_read_20, e_M_read_21, e_M_read_24, e_M_read_25, e_M_read_26, e_M_read_27, e_M_read_28, e_M_read_31, e_M_read_34, e_M_read_37, e_M_read_40, e_M_read_41, e_M_read_44, e_M_read_46, e_M_read_47, e_M_read_48, e_M_read_49, e_M_read_50, e_M_read_51, sh_o_82, K_M_isTape, K_M_in, eq_true ha, sh_r_82_55, sh_r_82_56, sh_i_119, sh_i_120, bt, ct, r1 I1 h1 hR1, r2 I1 h1 hR1, z, eq_false hi, pm_opt_some, pm_opt_none, pm_opt_if, Bool.false_eq_true, Bool.not_false, Bool.not_true, if_false, if_true, true_and, and_true, true_or, or_true, not_true_eq_false, not_false_eq_true, q10, q00, q01, q11, pk_v, pk_i, pk_l, pk_r]
  · refine Pair_q (v := .long (-9223372036854775808)) hR ⟨I, sfr_rf, K50 fun d' => ?_⟩ (fun I1 h1 hR1 => ⟨I1, sfr_rf, K50 fun d' => ?_⟩)
    · show pm_V X (d' + 49) 34 0 [some (.ref 0), some (.int a), some (.int i), none] [] (pm_S0 ++ g, I, J) _
      simp only [e_B_read_0, e_B_read_1, e_B_read_4, e_B_read_7, e_B_read_10, e_B_read_11, e_B_read_12, e_B_read_15, e_B_read_16, e_B_read_17, e_B_read_18, e_B_read_19, e_B_read_20, e_B_read_21, e_B_read_24, e_B_read_25, e_B_read_26, e_B_read_29, e_B_read_32, e_B_read_35, e_B_read_36, e_B_read_37, e_B_read_40, e_B_read_41, e_B_read_42, K_B_isTape, eq_false ha, pm_opt_some, pm_opt_none, pm_opt_if, Bool.false_eq_true, Bool.not_false, Bool.not_true, if_false, if_true, true_and, and_true, true_or, or_true, not_true_eq_false, not_false_eq_true, q10, q00, q01, q11, pk_v, pk_i, pk_l, pk_r]
    · show pm_V X (d' + 49) 190 0 [some (.ref 82), some (.int a), some (.int i)] [] (pm_S0 ++ g, I1, J) _
      simp only [e_M_read_0, e_M_read_1, e_M_read_2, e_M_read_5, e_M_read_8, e_M_read_9, e_M_read_12, e_M_read_13, e_M_read_14, e_M_read_17, e_M_read_18, e_M_read_19, e_M_read_20, e_M_read_21, e_M_read_24, e_M_read_25, e_M_read_26, e_M_read_27, e_M_read_28, e_M_read_31, e_M_read_34, e_M_read_37, e_M_read_40, e_M_read_41, e_M_read_44, e_M_read_46, e_M_read_47, e_M_read_48, e_M_read_49, e_M_read_50, e_M_read_51, sh_o_82, K_M_isTape, eq_false ha, pm_opt_some, pm_opt_none, pm_opt_if, Bool.false_eq_true, Bool.not_false, Bool.not_true, if_false, if_true, true_and, and_true, true_or, or_true, not_true_eq_false, not_false_eq_true, q10, q00, q01, q11, pk_v, pk_i, pk_l, pk_r]
/-- lengths less a cell -/
theorem lk_le {k : Nat} (hl : l ≤ 60) (hk : k ≤ 16) (hj : j < 2 ^ 31) : (nI l - nI k ≤ nI j) = (l ≤ j + k) := by
  have e : (nI l - nI k).toInt = (l : Int) - k := pk_sub_toInt (by omega) (by omega)
  refine propext ?_
  rw [i_le, e, nI_toInt hj]
  omega
theorem lk_le1 {k : Nat} (hl : l ≤ 60) (hk : k ≤ 16) (hj : j < 2 ^ 31) : (nI j ≤ nI l - nI k - 1) = ¬ (l ≤ j + k) := by
  have e : (nI l - nI k).toInt = (l : Int) - k := pk_sub_toInt (by omega) (by omega)
  have e2 : (nI l - nI k - 1).toInt = (l : Int) - k - 1 := by rw [i_sub (by rw [e, k1]; omega) (by rw [e, k1]; omega), e, k1]
  refine propext ?_
  rw [i_le, e2, nI_toInt hj]
  omega
theorem B_judge_loop (hl : l ≤ 60) (hj : j < 2 ^ 31) (ht : t < 6) (e3 : I (70 + 2 * t) 1 = nI l) : ∀ (n k : Nat), k + n = 16 → ∀ (d : Nat) (Q : pm_O → Prop), pm_V X (d + 9) 25 45 [some (.ref 0), some (.int (nI t)), some (.int (nI j)), some (.ref (70 + 2 * t)), some (.int (nI k))] [] (pm_S0 ++ g, I, J) Q = Q (some (.int (jdA (J (71 + 2 * t)) (fun c => (thT (rowT I 3 4 5 c)).toInt64) l j k n)), (pm_S0 ++ g, I, J)) := by
  intro n
  induction n with
  | zero =>
    intro k hk d Q
    obtain rfl : k = 16 := by omega
    have h16 : ((16 : Int32) ≤ nI 16) = True := by decide
    rw [e_B_judge_45]
    simp only [e_B_judge_0, e_B_judge_1, e_B_judge_4, e_B_judge_7, e_B_judge_8, e_B_judge_9, e_B_judge_10, e_B_judge_13, e_B_judge_14, e_B_judge_15, e_B_judge_16, e_B_judge_17, e_B_judge_20, e_B_judge_21, e_B_judge_24, e_B_judge_25, e_B_judge_28, e_B_judge_29, e_B_judge_32, e_B_judge_34, e_B_judge_35, e_B_judge_36, e_B_judge_39, e_B_judge_41, e_B_judge_42, e_B_judge_43, e_B_judge_47, e_B_judge_49, e_B_judge_52, e_B_judge_53, e_B_judge_54, e_B_judge_57, e_B_judge_59, e_B_judge_60, e_B_judge_63, e_B_judge_65, e_B_judge_67, e_B_judge_68, e_B_judge_69, e_B_judge_70, e_B_judge_73, e_B_judge_74, e_B_judge_76, e_B_judge_77, e_B_judge_78, e_B_judge_79, e_B_judge_82, e_B_judge_85, e_B_judge_87, e_B_judge_90, e_B_judge_91, e_B_judge_92, e_B_judge_95, e_B_judge_97, e_B_judge_98, e_B_judge_101, e_B_judge_104, e_B_judge_106, h16, jdA, pm_opt_some, pm_opt_none, pm_opt_if, Bool.false_eq_true, Bool.not_false, Bool.not_true, if_false, if_true, true_and, and_true, true_or, or_true, not_true_eq_false, not_false_eq_true, q10, q00, q01, q11, pk_v, pk_i, pk_l, pk_r]
  | succ n ih =>
    intro k hk d Q
    have hk16 : k < 16 := by omega
    have h1 : ((16 : Int32) ≤ nI k) = False := by
      rw [show (16 : Int32) = nI 16 from rfl, nI_le_l (by omega) (by omega)]
      exact eq_false (by omega)
    have h100 : (100 : Int32) + nI k = nI (100 + k) := nI_add 100 k
    rw [jdA, e_B_judge_45]
    by_cases q : l ≤ j + k
    · have q' : (nI j < nI l - nI k) = False := by
        refine eq_false (Int32.not_lt.mpr ?_)
        rw [lk_le hl (by omega) hj]
        exact q
      simp only [e_B_judge_0, e_B_judge_1, e_B_judge_4, e_B_judge_7, e_B_judge_8, e_B_judge_9, e_B_judge_10, e_B_judge_13, e_B_judge_14, e_B_judge_15, e_B_judge_16, e_B_judge_17, e_B_judge_20, e_B_judge_21, e_B_judge_24, e_B_judge_25, e_B_judge_28, e_B_judge_29, e_B_judge_32, e_B_judge_34, e_B_judge_35, e_B_judge_36, e_B_judge_39, e_B_judge_41, e_B_judge_42, e_B_judge_43, e_B_judge_47, e_B_judge_49, e_B_judge_52, e_B_judge_53, e_B_judge_54, e_B_judge_57, e_B_judge_59, e_B_judge_60, e_B_judge_63, e_B_judge_65, e_B_judge_67, e_B_judge_68, e_B_judge_69, e_B_judge_70, e_B_judge_73, e_B_judge_74, e_B_judge_76, e_B_judge_77, e_B_judge_78, e_B_judge_79, e_B_judge_82, e_B_judge_85, e_B_judge_87, e_B_judge_90, e_B_judge_91, e_B_judge_92, e_B_judge_95, e_B_judge_97, e_B_judge_98, e_B_judge_101, e_B_judge_104, e_B_judge_106, h1, tp_o ht, e3, q, q', h100, pm_opt_some, pm_opt_none, pm_opt_if, Bool.false_eq_true, Bool.not_false, Bool.not_true, if_false, if_true, true_and, and_true, true_or, or_true, not_true_eq_false, not_false_eq_true, q10, q00, q01, q11, pk_v, pk_i, pk_l, pk_r]
    · have q' : (nI j < nI l - nI k) = True := by
        refine eq_true (Int32.not_le.mp ?_)
        rw [lk_le hl (by omega) hj]
        exact q
      have bj := bad_nI (k := j + k) (n := 60) (by omega) (by decide)
      have cj := nI_clamp (n := j + k) (by omega)
      have ih' := ih (k + 1) (by omega) d Q
      simp only [e_B_judge_0, e_B_judge_1, e_B_judge_4, e_B_judge_7, e_B_judge_8, e_B_judge_9, e_B_judge_10, e_B_judge_13, e_B_judge_14, e_B_judge_15, e_B_judge_16, e_B_judge_17, e_B_judge_20, e_B_judge_21, e_B_judge_24, e_B_judge_25, e_B_judge_28, e_B_judge_29, e_B_judge_32, e_B_judge_34, e_B_judge_35, e_B_judge_36, e_B_judge_39, e_B_judge_41, e_B_judge_42, e_B_judge_43, e_B_judge_47, e_B_judge_49, e_B_judge_52, e_B_judge_53, e_B_judge_54, e_B_judge_57, e_B_judge_59, e_B_judge_60, e_B_judge_63, e_B_judge_65, e_B_judge_67, e_B_judge_68, e_B_judge_69, e_B_judge_70, e_B_judge_73, e_B_judge_74, e_B_judge_76, e_B_judge_77, e_B_judge_78, e_B_judge_79, e_B_judge_82, e_B_judge_85, e_B_judge_87, e_B_judge_90, e_B_judge_91, e_B_judge_92, e_B_judge_95, e_B_judge_97, e_B_judge_98, e_B_judge_101, e_B_judge_104, e_B_judge_106, h1, sh_o_2, sh_r_0_0, sh_r_1_0, tp_o ht, tp_r ht, la_of (tp_s ht), e3, q, q', nI_add, bj, cj, K_I_thick ice_now hk16, nI_1, ih', pm_opt_some, pm_opt_none, pm_opt_if, Bool.false_eq_true, Bool.not_false, Bool.not_true, if_false, if_true, true_and, and_true, true_or, or_true, not_true_eq_false, not_false_eq_true, q10, q00, q01, q11, pk_v, pk_i, pk_l, pk_r]
      show (if lg_cmp (J (71 + 2 * t) (j + k)) (thT (rowT I 3 4 5 k)).toInt64 = 0 then _ else _) = _
      by_cases q2 : lg_cmp (J (71 + 2 * t) (j + k)) (thT (rowT I 3 4 5 k)).toInt64 = 0
      · simp only [q2, pm_opt_some, pm_opt_none, pm_opt_if, Bool.false_eq_true, Bool.not_false, Bool.not_true, if_false, if_true, true_and, and_true, true_or, or_true, not_true_eq_false, not_false_eq_true, q10, q00, q01, q11, pk_v, pk_i, pk_l, pk_r]
      · simp only [q2, pm_opt_some, pm_opt_none, pm_opt_if, Bool.false_eq_true, Bool.not_false, Bool.not_true, if_false, if_true, true_and, and_true, true_or, or_true, not_true_eq_false, not_false_eq_true, q10, q00, q01, q11, pk_v, pk_i, pk_l, pk_r]
theorem M_judge_loop {f : Nat → Int64} (hl : l ≤ 60) (hj : j < 2 ^ 31) (ht : t < 6) (e1 : (I 119 t < 0) = False) (e3 : I 120 t = nI l) (e5 : ∀ k, k < 60 → J 121 (60 * t + k) = f k) : ∀ (n k : Nat), k + n = 16 → ∀ (d : Nat) (Q : pm_O → Prop), pm_V X (d + 9) 170 34 [some (.ref 82), some (.int (nI t)), some (.int (nI j)), some (.int (nI k))] [] (pm_S0 ++ g, I, J) Q = Q (some (.int (jdA f (fun c => (thT (rowT I 83 84 85 c)).toInt64) l j k n)), (pm_S0 ++ g, I, J)) := by
  have bt := bad_nI (k := t) (n := 6) ht (by decide)
  have ct := nI_clamp (n := t) (by omega)
  have jn : (nI j < 0) = False := eq_false (nI_pos hj)
  intro n
  induction n with
  | zero =>
    intro k hk d Q
    obtain rfl : k = 16 := by omega
    have h16 : ((16 : Int32) ≤ nI 16) = True := by decide
    rw [e_M_judge_34]
    simp only [e_M_judge_0, e_M_judge_1, e_M_judge_2, e_M_judge_5, e_M_judge_8, e_M_judge_9, e_M_judge_10, e_M_judge_11, e_M_judge_14, e_M_judge_15, e_M_judge_16, e_M_judge_19, e_M_judge_20, e_M_judge_23, e_M_judge_24, e_M_judge_25, e_M_judge_26, e_M_judge_29, e_M_judge_31, e_M_judge_32, e_M_judge_33, e_M_judge_35, e_M_judge_37, e_M_judge_40, e_M_judge_41, e_M_judge_44, e_M_judge_45, e_M_judge_46, e_M_judge_49, e_M_judge_50, e_M_judge_53, e_M_judge_54, e_M_judge_55, e_M_judge_58, e_M_judge_59, e_M_judge_60, e_M_judge_61, e_M_judge_62, e_M_judge_63, e_M_judge_64, e_M_judge_67, e_M_judge_69, e_M_judge_70, e_M_judge_71, e_M_judge_72, e_M_judge_73, e_M_judge_76, e_M_judge_78, e_M_judge_79, e_M_judge_80, e_M_judge_81, e_M_judge_82, e_M_judge_83, e_M_judge_84, e_M_judge_85, e_M_judge_86, e_M_judge_87, e_M_judge_90, e_M_judge_91, e_M_judge_92, e_M_judge_95, e_M_judge_96, e_M_judge_97, e_M_judge_100, e_M_judge_103, e_M_judge_105, h16, jdA, pm_opt_some, pm_opt_none, pm_opt_if, Bool.false_eq_true, Bool.not_false, Bool.not_true, if_false, if_true, true_and, and_true, true_or, or_true, not_true_eq_false, not_false_eq_true, q10, q00, q01, q11, pk_v, pk_i, pk_l, pk_r]
  | succ n ih =>
    intro k hk d Q
    have hk16 : k < 16 := by omega
    have h1 : ((16 : Int32) ≤ nI k) = False := by
      rw [show (16 : Int32) = nI 16 from rfl, nI_le_l (by omega) (by omega)]
      exact eq_false (by omega)
    have h100 : (100 : Int32) + nI k = nI (100 + k) := nI_add 100 k
    rw [jdA, e_M_judge_34]
    by_cases q : l ≤ j + k
    · have q' : (nI j ≤ nI l - nI k - 1) = False := by
        rw [lk_le1 hl (by omega) hj]
        exact eq_false (fun z => z q)
      simp only [e_M_judge_0, e_M_judge_1, e_M_judge_2, e_M_judge_5, e_M_judge_8, e_M_judge_9, e_M_judge_10, e_M_judge_11, e_M_judge_14, e_M_judge_15, e_M_judge_16, e_M_judge_19, e_M_judge_20, e_M_judge_23, e_M_judge_24, e_M_judge_25, e_M_judge_26, e_M_judge_29, e_M_judge_31, e_M_judge_32, e_M_judge_33, e_M_judge_35, e_M_judge_37, e_M_judge_40, e_M_judge_41, e_M_judge_44, e_M_judge_45, e_M_judge_46, e_M_judge_49, e_M_judge_50, e_M_judge_53, e_M_judge_54, e_M_judge_55, e_M_judge_58, e_M_judge_59, e_M_judge_60, e_M_judge_61, e_M_judge_62, e_M_judge_63, e_M_judge_64, e_M_judge_67, e_M_judge_69, e_M_judge_70, e_M_judge_71, e_M_judge_72, e_M_judge_73, e_M_judge_76, e_M_judge_78, e_M_judge_79, e_M_judge_80, e_M_judge_81, e_M_judge_82, e_M_judge_83, e_M_judge_84, e_M_judge_85, e_M_judge_86, e_M_judge_87, e_M_judge_90, e_M_judge_91, e_M_judge_92, e_M_judge_95, e_M_judge_96, e_M_judge_97, e_M_judge_100, e_M_judge_103, e_M_judge_105, h1, sh_r_82_55, sh_r_82_56, sh_i_119, sh_i_120, bt, ct, e1, jn, e3, q, q', h100, pm_opt_some, pm_opt_none, pm_opt_if, Bool.false_eq_true, Bool.not_false, Bool.not_true, if_false, if_true, true_and, and_true, true_or, or_true, not_true_eq_false, not_false_eq_true, q10, q00, q01, q11, pk_v, pk_i, pk_l, pk_r]
    · have q' : (nI j ≤ nI l - nI k - 1) = True := by
        rw [lk_le1 hl (by omega) hj]
        exact eq_true q
      have bj := bad_nI (k := 60 * t + j + k) (n := 360) (by omega) (by decide)
      have cj := nI_clamp (n := 60 * t + j + k) (by omega)
      have m60 : (60 : Int32) * nI t = nI (60 * t) := pk_mul 60 t
      have e5' : J 121 (60 * t + j + k) = f (j + k) := by rw [Nat.add_assoc]; exact e5 (j + k) (by omega)
      have ih' := ih (k + 1) (by omega) d Q
      simp only [e_M_judge_0, e_M_judge_1, e_M_judge_2, e_M_judge_5, e_M_judge_8, e_M_judge_9, e_M_judge_10, e_M_judge_11, e_M_judge_14, e_M_judge_15, e_M_judge_16, e_M_judge_19, e_M_judge_20, e_M_judge_23, e_M_judge_24, e_M_judge_25, e_M_judge_26, e_M_judge_29, e_M_judge_31, e_M_judge_32, e_M_judge_33, e_M_judge_35, e_M_judge_37, e_M_judge_40, e_M_judge_41, e_M_judge_44, e_M_judge_45, e_M_judge_46, e_M_judge_49, e_M_judge_50, e_M_judge_53, e_M_judge_54, e_M_judge_55, e_M_judge_58, e_M_judge_59, e_M_judge_60, e_M_judge_61, e_M_judge_62, e_M_judge_63, e_M_judge_64, e_M_judge_67, e_M_judge_69, e_M_judge_70, e_M_judge_71, e_M_judge_72, e_M_judge_73, e_M_judge_76, e_M_judge_78, e_M_judge_79, e_M_judge_80, e_M_judge_81, e_M_judge_82, e_M_judge_83, e_M_judge_84, e_M_judge_85, e_M_judge_86, e_M_judge_87, e_M_judge_90, e_M_judge_91, e_M_judge_92, e_M_judge_95, e_M_judge_96, e_M_judge_97, e_M_judge_100, e_M_judge_103, e_M_judge_105, h1, sh_o_82, sh_r_82_55, sh_r_82_56, sh_r_82_57, sh_i_119, sh_i_120, sh_i_121, bt, ct, e1, jn, e3, q, q', m60, nI_add, bj, cj, e5', K_M_thickOf hk16, nI_1, ih', pm_opt_some, pm_opt_none, pm_opt_if, Bool.false_eq_true, Bool.not_false, Bool.not_true, if_false, if_true, true_and, and_true, true_or, or_true, not_true_eq_false, not_false_eq_true, q10, q00, q01, q11, pk_v, pk_i, pk_l, pk_r]
      show (if lg_cmp (f (j + k)) (thT (rowT I 83 84 85 k)).toInt64 = 0 then _ else _) = _
      by_cases q2 : lg_cmp (f (j + k)) (thT (rowT I 83 84 85 k)).toInt64 = 0
      · simp only [q2, pm_opt_some, pm_opt_none, pm_opt_if, Bool.false_eq_true, Bool.not_false, Bool.not_true, if_false, if_true, true_and, and_true, true_or, or_true, not_true_eq_false, not_false_eq_true, q10, q00, q01, q11, pk_v, pk_i, pk_l, pk_r]
      · simp only [q2, pm_opt_some, pm_opt_none, pm_opt_if, Bool.false_eq_true, Bool.not_false, Bool.not_true, if_false, if_true, true_and, and_true, true_or, or_true, not_true_eq_false, not_false_eq_true, q10, q00, q01, q11, pk_v, pk_i, pk_l, pk_r]
theorem Pair_judge (hR : Rel I J) : Pair X 25 170 [.int a, .int i] g I J := by
  by_cases ha : 0 ≤ a ∧ a ≤ 5
  · obtain ⟨t, ht, rfl⟩ := in_of (m := 5) rfl ha
    have ht' : t < 6 := by omega
    have bt := bad_nI (k := t) (n := 6) ht' (by decide)
    have ct := nI_clamp (n := t) (by omega)
    obtain ⟨e1, e2, ⟨l, hl, e3⟩, e4, e5⟩ := hR.2.2.2.2.2.2.2 t ht'
    have r1 : ∀ I1, sfr I I1 → Rel I1 J → I1 119 t = I (70 + 2 * t) 0 := fun I1 h1 hR1 => by rw [(hR1.2.2.2.2.2.2.2 t ht').1, sfr_at h1 (by unfold SL; simp; omega)]
    have r2 : ∀ I1, sfr I I1 → Rel I1 J → I1 120 t = nI l := fun I1 h1 hR1 => by
      rw [(hR1.2.2.2.2.2.2.2 t ht').2.1, sfr_at h1 (by unfold SL; simp; omega)]
      exact e3
    rcases e4 with ⟨e4, e4'⟩ | ⟨s, hs, e4⟩
    · -- nothing is there
      have l0 : l = 0 := (nI_eq (by omega) (by decide)).mp (e3.symm.trans e4')
      subst l0
      have z : ((-1 : Int32) < 0) = True := by decide
      have z0 : ((0 : Int32) ≤ -1) = False := by decide
      have y1 : ((16 : Int32) ≤ 0) = False := by decide
      have y2 : (100 : Int32) + 0 = 100 := by decide
      refine Pair_q (v := .int 100) hR ⟨I, sfr_rf, K50 fun d' => ?_⟩ (fun I1 h1 hR1 => ⟨I1, sfr_rf, K50 fun d' => ?_⟩)
      · show pm_V X (d' + 49) 25 0 [some (.ref 0), some (.int (nI t)), some (.int i), none, none] [] (pm_S0 ++ g, I, J) _
        by_cases q : 0 ≤ i
        · have q2 : (i < nI 0 - 0) = False := by
            refine eq_false (Int32.not_lt.mpr ?_)
            rw [nI_0, Int32.sub_zero]
            exact q
          simp only [e_B_judge_0, e_B_judge_1, e_B_judge_4, e_B_judge_7, e_B_judge_8, e_B_judge_9, e_B_judge_10, e_B_judge_13, e_B_judge_14, e_B_judge_15, e_B_judge_16, e_B_judge_17, e_B_judge_20, e_B_judge_21, e_B_judge_24, e_B_judge_25, e_B_judge_28, e_B_judge_29, e_B_judge_32, e_B_judge_34, e_B_judge_35, e_B_judge_36, e_B_judge_39, e_B_judge_41, e_B_judge_42, e_B_judge_43, e_B_judge_45, e_B_judge_47, e_B_judge_49, e_B_judge_52, e_B_judge_53, e_B_judge_54, e_B_judge_57, e_B_judge_59, e_B_judge_60, e_B_judge_63, e_B_judge_65, e_B_judge_67, e_B_judge_68, e_B_judge_69, e_B_judge_70, e_B_judge_73, e_B_judge_74, e_B_judge_76, e_B_judge_77, e_B_judge_78, e_B_judge_79, e_B_judge_82, e_B_judge_85, e_B_judge_87, e_B_judge_90, e_B_judge_91, e_B_judge_92, e_B_judge_95, e_B_judge_97, e_B_judge_98, e_B_judge_101, e_B_judge_104, e_B_judge_106, K_B_isTape, eq_true ha, sh_r_0_8, tp_a ht', tp_o ht', e4, e3, q, q2, y1, y2, pm_opt_some, pm_opt_none, pm_opt_if, Bool.false_eq_true, Bool.not_false, Bool.not_true, if_false, if_true, true_and, and_true, true_or, or_true, not_true_eq_false, not_false_eq_true, q10, q00, q01, q11, pk_v, pk_i, pk_l, pk_r]
        · simp only [e_B_judge_0, e_B_judge_1, e_B_judge_4, e_B_judge_7, e_B_judge_8, e_B_judge_9, e_B_judge_10, e_B_judge_13, e_B_judge_14, e_B_judge_15, e_B_judge_16, e_B_judge_17, e_B_judge_20, e_B_judge_21, e_B_judge_24, e_B_judge_25, e_B_judge_28, e_B_judge_29, e_B_judge_32, e_B_judge_34, e_B_judge_35, e_B_judge_36, e_B_judge_39, e_B_judge_41, e_B_judge_42, e_B_judge_43, e_B_judge_45, e_B_judge_47, e_B_judge_49, e_B_judge_52, e_B_judge_53, e_B_judge_54, e_B_judge_57, e_B_judge_59, e_B_judge_60, e_B_judge_63, e_B_judge_65, e_B_judge_67, e_B_judge_68, e_B_judge_69, e_B_judge_70, e_B_judge_73, e_B_judge_74, e_B_judge_76, e_B_judge_77, e_B_judge_78, e_B_judge_79, e_B_judge_82, e_B_judge_85, e_B_judge_87, e_B_judge_90, e_B_judge_91, e_B_judge_92, e_B_judge_95, e_B_judge_97, e_B_judge_98, e_B_judge_101, e_B_judge_104, e_B_judge_106, K_B_isTape, eq_true ha, sh_r_0_8, tp_a ht', tp_o ht', e4, q, pm_opt_some, pm_opt_none, pm_opt_if, Bool.false_eq_true, Bool.not_false, Bool.not_true, if_false, if_true, true_and, and_true, true_or, or_true, not_true_eq_false, not_false_eq_true, q10, q00, q01, q11, pk_v, pk_i, pk_l, pk_r]
      · show pm_V X (d' + 49) 170 0 [some (.ref 82), some (.int (nI t)), some (.int i), none] [] (pm_S0 ++ g, I1, J) _
        simp only [e_M_judge_0, e_M_judge_1, e_M_judge_2, e_M_judge_5, e_M_judge_8, e_M_judge_9, e_M_judge_10, e_M_judge_11, e_M_judge_14, e_M_judge_15, e_M_judge_16, e_M_judge_19, e_M_judge_20, e_M_judge_23, e_M_judge_24, e_M_judge_25, e_M_judge_26, e_M_judge_29, e_M_judge_31, e_M_judge_32, e_M_judge_33, e_M_judge_34, e_M_judge_35, e_M_judge_37, e_M_judge_40, e_M_judge_41, e_M_judge_44, e_M_judge_45, e_M_judge_46, e_M_judge_49, e_M_judge_50, e_M_judge_53, e_M_judge_54, e_M_judge_55, e_M_judge_58, e_M_judge_59, e_M_judge_60, e_M_judge_61, e_M_judge_62, e_M_judge_63, e_M_judge_64, e_M_judge_67, e_M_judge_69, e_M_judge_70, e_M_judge_71, e_M_judge_72, e_M_judge_73, e_M_judge_76, e_M_judge_78, e_M_judge_79, e_M_judge_80, e_M_judge_81, e_M_judge_82, e_M_judge_83, e_M_judge_84, e_M_judge_85, e_M_judge_86, e_M_judge_87, e_M_judge_90, e_M_judge_91, e_M_judge_92, e_M_judge_95, e_M_judge_96, e_M_judge_97, e_M_judge_100, e_M_judge_103, e_M_judge_105, sh_o_82, K_M_isTape, eq_true ha, sh_r_82_55, sh_i_119, bt, ct, r1 I1 h1 hR1, e4, z, z0, y1, y2, pm_opt_some, pm_opt_none, pm_opt_if, Bool.false_eq_true, Bool.not_false, Bool.not_true, if_false, if_true, true_and, and_true, true_or, or_true, not_true_eq_false, not_false_eq_true, q10, q00, q01, q11, pk_v, pk_i, pk_l, pk_r]
    · have z1 : (nI s = -1) = False := eq_false (fun e => by
        rw [i_eq, nI_toInt (by omega), show (-1 : Int32).toInt = -1 from rfl] at e
        omega)
      have z2 : (nI s < 0) = False := eq_false (nI_pos (by omega))
      have z3 : (nI s = 3) = (s = 3) := propext (nI_eq (a := s) (b := 3) (by omega) (by decide))
      by_cases h3 : s = 3
      · subst h3
        have z1 : (nI 3 = -1) = False := by decide
        have z2 : (nI 3 < 0) = False := by decide
        have z3 : (nI 3 = 3) = True := by decide
        by_cases q : 0 ≤ i
        · obtain ⟨j, hj, rfl⟩ := nI_of (Int32.not_lt.mpr q)
          refine Pair_q (v := .int (jdA (J (71 + 2 * t)) (fun c => (thT (rowT I 3 4 5 c)).toInt64) l j 0 16)) hR ⟨I, sfr_rf, K50 fun d' => ?_⟩ (fun I1 h1 hR1 => ⟨I1, sfr_rf, K50 fun d' => ?_⟩)
          · have L := B_judge_loop (X := X) (g := g) (J := J) hl hj ht' e3 16 0 (by omega) (d' + 40)
            simp only [nI_0] at L
            show pm_V X (d' + 49) 25 0 [some (.ref 0), some (.int (nI t)), some (.int (nI j)), none, none] [] (pm_S0 ++ g, I, J) _
            simp only [e_B_judge_0, e_B_judge_1, e_B_judge_4, e_B_judge_7, e_B_judge_8, e_B_judge_9, e_B_judge_10, e_B_judge_13, e_B_judge_14, e_B_judge_15, e_B_judge_16, e_B_judge_17, e_B_judge_20, e_B_judge_21, e_B_judge_24, e_B_judge_25, e_B_judge_28, e_B_judge_29, e_B_judge_32, e_B_judge_34, e_B_judge_35, e_B_judge_36, e_B_judge_39, e_B_judge_41, e_B_judge_42, e_B_judge_43, e_B_judge_47, e_B_judge_49, e_B_judge_52, e_B_judge_53, e_B_judge_54, e_B_judge_57, e_B_judge_59, e_B_judge_60, e_B_judge_63, e_B_judge_65, e_B_judge_67, e_B_judge_68, e_B_judge_69, e_B_judge_70, e_B_judge_73, e_B_judge_74, e_B_judge_76, e_B_judge_77, e_B_judge_78, e_B_judge_79, e_B_judge_82, e_B_judge_85, e_B_judge_87, e_B_judge_90, e_B_judge_91, e_B_judge_92, e_B_judge_95, e_B_judge_97, e_B_judge_98, e_B_judge_101, e_B_judge_104, e_B_judge_106, K_B_isTape, eq_true ha, sh_r_0_8, tp_a ht', tp_o ht', e4, z1, z3, q, pm_opt_some, pm_opt_none, pm_opt_if, Bool.false_eq_true, Bool.not_false, Bool.not_true, if_false, if_true, true_and, and_true, true_or, or_true, not_true_eq_false, not_false_eq_true, q10, q00, q01, q11, pk_v, pk_i, pk_l, pk_r]
            rw [L]
          · have L := M_judge_loop (X := X) (g := g) (J := J) (I := I1) (f := J (71 + 2 * t)) hl hj ht' (by rw [r1 I1 h1 hR1, e4]; exact z2) (r2 I1 h1 hR1) e5 16 0 (by omega) (d' + 40)
            simp only [nI_0] at L
            have ro : rowT I1 83 84 85 = rowT I 3 4 5 := by
              rw [← sfr_row h1]
              unfold rowT
              rw [hR1.1.1.1, hR1.1.1.2.1, hR1.1.1.2.2.1]
            rw [ro] at L
            show pm_V X (d' + 49) 170 0 [some (.ref 82), some (.int (nI t)), some (.int (nI j)), none] [] (pm_S0 ++ g, I1, J) _
            simp only [e_M_judge_0, e_M_judge_1, e_M_judge_2, e_M_judge_5, e_M_judge_8, e_M_judge_9, e_M_judge_10, e_M_judge_11, e_M_judge_14, e_M_judge_15, e_M_judge_16, e_M_judge_19, e_M_judge_20, e_M_judge_23, e_M_judge_24, e_M_judge_25, e_M_judge_26, e_M_judge_29, e_M_judge_31, e_M_judge_32, e_M_judge_33, e_M_judge_35, e_M_judge_37, e_M_judge_40, e_M_judge_41, e_M_judge_44, e_M_judge_45, e_M_judge_46, e_M_judge_49, e_M_judge_50, e_M_judge_53, e_M_judge_54, e_M_judge_55, e_M_judge_58, e_M_judge_59, e_M_judge_60, e_M_judge_61, e_M_judge_62, e_M_judge_63, e_M_judge_64, e_M_judge_67, e_M_judge_69, e_M_judge_70, e_M_judge_71, e_M_judge_72, e_M_judge_73, e_M_judge_76, e_M_judge_78, e_M_judge_79, e_M_judge_80, e_M_judge_81, e_M_judge_82, e_M_judge_83, e_M_judge_84, e_M_judge_85, e_M_judge_86, e_M_judge_87, e_M_judge_90, e_M_judge_91, e_M_judge_92, e_M_judge_95, e_M_judge_96, e_M_judge_97, e_M_judge_100, e_M_judge_103, e_M_judge_105, sh_o_82, K_M_isTape, eq_true ha, sh_r_82_55, sh_i_119, bt, ct, r1 I1 h1 hR1, e4, z2, z3, pm_opt_some, pm_opt_none, pm_opt_if, Bool.false_eq_true, Bool.not_false, Bool.not_true, if_false, if_true, true_and, and_true, true_or, or_true, not_true_eq_false, not_false_eq_true, q10, q00, q01, q11, pk_v, pk_i, pk_l, pk_r]
            rw [L]
        · have q' : (i < 0) = True := eq_true (Int32.not_le.mp q)
          have y1 : ((16 : Int32) ≤ 0) = False := by decide
          have y2 : (100 : Int32) + 0 = 100 := by decide
          refine Pair_q (v := .int 100) hR ⟨I, sfr_rf, K50 fun d' => ?_⟩ (fun I1 h1 hR1 => ⟨I1, sfr_rf, K50 fun d' => ?_⟩)
          · show pm_V X (d' + 49) 25 0 [some (.ref 0), some (.int (nI t)), some (.int i), none, none] [] (pm_S0 ++ g, I, J) _
            simp only [e_B_judge_0, e_B_judge_1, e_B_judge_4, e_B_judge_7, e_B_judge_8, e_B_judge_9, e_B_judge_10, e_B_judge_13, e_B_judge_14, e_B_judge_15, e_B_judge_16, e_B_judge_17, e_B_judge_20, e_B_judge_21, e_B_judge_24, e_B_judge_25, e_B_judge_28, e_B_judge_29, e_B_judge_32, e_B_judge_34, e_B_judge_35, e_B_judge_36, e_B_judge_39, e_B_judge_41, e_B_judge_42, e_B_judge_43, e_B_judge_45, e_B_judge_47, e_B_judge_49, e_B_judge_52, e_B_judge_53, e_B_judge_54, e_B_judge_57, e_B_judge_59, e_B_judge_60, e_B_judge_63, e_B_judge_65, e_B_judge_67, e_B_judge_68, e_B_judge_69, e_B_judge_70, e_B_judge_73, e_B_judge_74, e_B_judge_76, e_B_judge_77, e_B_judge_78, e_B_judge_79, e_B_judge_82, e_B_judge_85, e_B_judge_87, e_B_judge_90, e_B_judge_91, e_B_judge_92, e_B_judge_95, e_B_judge_97, e_B_judge_98, e_B_judge_101, e_B_judge_104, e_B_judge_106, K_B_isTape, eq_true ha, sh_r_0_8, tp_a ht', tp_o ht', e4, z1, z3, q, pm_opt_some, pm_opt_none, pm_opt_if, Bool.false_eq_true, Bool.not_false, Bool.not_true, if_false, if_true, true_and, and_true, true_or, or_true, not_true_eq_false, not_false_eq_true, q10, q00, q01, q11, pk_v, pk_i, pk_l, pk_r]
          · show pm_V X (d' + 49) 170 0 [some (.ref 82), some (.int (nI t)), some (.int i), none] [] (pm_S0 ++ g, I1, J) _
            simp only [e_M_judge_0, e_M_judge_1, e_M_judge_2, e_M_judge_5, e_M_judge_8, e_M_judge_9, e_M_judge_10, e_M_judge_11, e_M_judge_14, e_M_judge_15, e_M_judge_16, e_M_judge_19, e_M_judge_20, e_M_judge_23, e_M_judge_24, e_M_judge_25, e_M_judge_26, e_M_judge_29, e_M_judge_31, e_M_judge_32, e_M_judge_33, e_M_judge_34, e_M_judge_35, e_M_judge_37, e_M_judge_40, e_M_judge_41, e_M_judge_44, e_M_judge_45, e_M_judge_46, e_M_judge_49, e_M_judge_50, e_M_judge_53, e_M_judge_54, e_M_judge_55, e_M_judge_58, e_M_judge_59, e_M_judge_60, e_M_judge_61, e_M_judge_62, e_M_judge_63, e_M_judge_64, e_M_judge_67, e_M_judge_69, e_M_judge_70, e_M_judge_71, e_M_judge_72, e_M_judge_73, e_M_judge_76, e_M_judge_78, e_M_judge_79, e_M_judge_80, e_M_judge_81, e_M_judge_82, e_M_judge_83, e_M_judge_84, e_M_judge_85, e_M_judge_86, e_M_judge_87, e_M_judge_90, e_M_judge_91, e_M_judge_92, e_M_judge_95, e_M_judge_96, e_M_judge_97, e_M_judge_100, e_M_judge_103, e_M_judge_105, sh_o_82, K_M_isTape, eq_true ha, sh_r_82_55, sh_i_119, bt, ct, r1 I1 h1 hR1, e4, z2, z3, q', y1, y2, pm_opt_some, pm_opt_none, pm_opt_if, Bool.false_eq_true, Bool.not_false, Bool.not_true, if_false, if_true, true_and, and_true, true_or, or_true, not_true_eq_false, not_false_eq_true, q10, q00, q01, q11, pk_v, pk_i, pk_l, pk_r]
      · have z4 : ((0 : Int32) ≤ nI s) = True := eq_true (nI_pos' (by omega))
        refine Pair_q (v := .int (-12)) hR ⟨I, sfr_rf, K50 fun d' => ?_⟩ (fun I1 h1 hR1 => ⟨I1, sfr_rf, K50 fun d' => ?_⟩)
        · show pm_V X (d' + 49) 25 0 [some (.ref 0), some (.int (nI t)), some (.int i), none, none] [] (pm_S0 ++ g, I, J) _
          simp only [e_B_judge_0, e_B_judge_1, e_B_judge_4, e_B_judge_7, e_B_judge_8, e_B_judge_9, e_B_judge_10, e_B_judge_13, e_B_judge_14, e_B_judge_15, e_B_judge_16, e_B_judge_17, e_B_judge_20, e_B_judge_21, e_B_judge_24, e_B_judge_25, e_B_judge_28, e_B_judge_29, e_B_judge_32, e_B_judge_34, e_B_judge_35, e_B_judge_36, e_B_judge_39, e_B_judge_41, e_B_judge_42, e_B_judge_43, e_B_judge_45, e_B_judge_47, e_B_judge_49, e_B_judge_52, e_B_judge_53, e_B_judge_54, e_B_judge_57, e_B_judge_59, e_B_judge_60, e_B_judge_63, e_B_judge_65, e_B_judge_67, e_B_judge_68, e_B_judge_69, e_B_judge_70, e_B_judge_73, e_B_judge_74, e_B_judge_76, e_B_judge_77, e_B_judge_78, e_B_judge_79, e_B_judge_82, e_B_judge_85, e_B_judge_87, e_B_judge_90, e_B_judge_91, e_B_judge_92, e_B_judge_95, e_B_judge_97, e_B_judge_98, e_B_judge_101, e_B_judge_104, e_B_judge_106, K_B_isTape, eq_true ha, sh_r_0_8, tp_a ht', tp_o ht', e4, z1, z3, h3, pm_opt_some, pm_opt_none, pm_opt_if, Bool.false_eq_true, Bool.not_false, Bool.not_true, if_false, if_true, true_and, and_true, true_or, or_true, not_true_eq_false, not_false_eq_true, q10, q00, q01, q11, pk_v, pk_i, pk_l, pk_r]
        · show pm_V X (d' + 49) 170 0 [some (.ref 82), some (.int (nI t)), some (.int i), none] [] (pm_S0 ++ g, I1, J) _
          simp only [e_M_judge_0, e_M_judge_1, e_M_judge_2, e_M_judge_5, e_M_judge_8, e_M_judge_9, e_M_judge_10, e_M_judge_11, e_M_judge_14, e_M_judge_15, e_M_judge_16, e_M_judge_19, e_M_judge_20, e_M_judge_23, e_M_judge_24, e_M_judge_25, e_M_judge_26, e_M_judge_29, e_M_judge_31, e_M_judge_32, e_M_judge_33, e_M_judge_34, e_M_judge_35, e_M_judge_37, e_M_judge_40, e_M_judge_41, e_M_judge_44, e_M_judge_45, e_M_judge_46, e_M_judge_49, e_M_judge_50, e_M_judge_53, e_M_judge_54, e_M_judge_55, e_M_judge_58, e_M_judge_59, e_M_judge_60, e_M_judge_61, e_M_judge_62, e_M_judge_63, e_M_judge_64, e_M_judge_67, e_M_judge_69, e_M_judge_70, e_M_judge_71, e_M_judge_72, e_M_judge_73, e_M_judge_76, e_M_judge_78, e_M_judge_79, e_M_judge_80, e_M_judge_81, e_M_judge_82, e_M_judge_83, e_M_judge_84, e_M_judge_85, e_M_judge_86, e_M_judge_87, e_M_judge_90, e_M_judge_91, e_M_judge_92, e_M_judge_95, e_M_judge_96, e_M_judge_97, e_M_judge_100, e_M_judge_103, e_M_judge_105, sh_o_82, K_M_isTape, eq_true ha, sh_r_82_55, sh_i_119, bt, ct, r1 I1 h1 hR1, e4, z2, z3, z4, h3, pm_opt_some, pm_opt_none, pm_opt_if, Bool.false_eq_true, Bool.not_false, Bool.not_true, if_false, if_true, true_and, and_true, true_or, or_true, not_true_eq_false, not_false_eq_true, q10, q00, q01, q11, pk_v, pk_i, pk_l, pk_r]
  · exact Pair_q (v := .int (-1)) hR ⟨I, sfr_rf, K50 fun d' => by { show pm_V X (d' + 49) 25 0 [some (.ref 0), some (.int a), some (.int i), none, none] [] (pm_S0 ++ g, I, J) _; simp only [e_B_judge_0, e_B_judge_1, e_B_judge_4, e_B_judge_7, e_B_judge_8, e_B_judge_9, e_B_judge_10, e_B_judge_13, e_B_judge_14, e_B_judge_15, e_B_judge_16, e_B_judge_17, e_B_judge_20, e_B_judge_21, e_B_judge_24, e_B_judge_25, e_B_judge_28, e_B_judge_29, e_B_judge_32, e_B_judge_34, e_B_judge_35, e_B_judge_36, e_B_judge_39, e_B_judge_41, e_B_judge_42, e_B_judge_43, e_B_judge_45, e_B_judge_47, e_B_judge_49, e_B_judge_52, e_B_judge_53, e_B_judge_54, e_B_judge_57, e_B_judge_59, e_B_judge_60, e_B_judge_63, e_B_judge_65, e_B_judge_67, e_B_judge_68, e_B_judge_69, e_B_judge_70, e_B_judge_73, e_B_judge_74, e_B_judge_76, e_B_judge_77, e_B_judge_78, e_B_judge_79, e_B_judge_82, e_B_judge_85, e_B_judge_87, e_B_judge_90, e_B_judge_91, e_B_judge_92, e_B_judge_95, e_B_judge_97, e_B_judge_98, e_B_judge_101, e_B_judge_104, e_B_judge_106, K_B_isCell, K_B_isWithin, K_B_isTape, K_B_isKind, eq_false ha, pm_opt_some, pm_opt_none, pm_opt_if, Bool.false_eq_true, Bool.not_false, Bool.not_true, if_false, if_true, true_and, and_true, true_or, or_true, not_true_eq_false, not_false_eq_true, q10, q00, q01, q11, pk_v, pk_i, pk_l, pk_r] }⟩ (fun I1 h1 hR1 => ⟨I1, sfr_rf, K50 fun d' => by { show pm_V X (d' + 49) 170 0 [some (.ref 82), some (.int a), some (.int i), none] [] (pm_S0 ++ g, I1, J) _; simp only [e_M_judge_0, e_M_judge_1, e_M_judge_2, e_M_judge_5, e_M_judge_8, e_M_judge_9, e_M_judge_10, e_M_judge_11, e_M_judge_14, e_M_judge_15, e_M_judge_16, e_M_judge_19, e_M_judge_20, e_M_judge_23, e_M_judge_24, e_M_judge_25, e_M_judge_26, e_M_judge_29, e_M_judge_31, e_M_judge_32, e_M_judge_33, e_M_judge_34, e_M_judge_35, e_M_judge_37, e_M_judge_40, e_M_judge_41, e_M_judge_44, e_M_judge_45, e_M_judge_46, e_M_judge_49, e_M_judge_50, e_M_judge_53, e_M_judge_54, e_M_judge_55, e_M_judge_58, e_M_judge_59, e_M_judge_60, e_M_judge_61, e_M_judge_62, e_M_judge_63, e_M_judge_64, e_M_judge_67, e_M_judge_69, e_M_judge_70, e_M_judge_71, e_M_judge_72, e_M_judge_73, e_M_judge_76, e_M_judge_78, e_M_judge_79, e_M_judge_80, e_M_judge_81, e_M_judge_82, e_M_judge_83, e_M_judge_84, e_M_judge_85, e_M_judge_86, e_M_judge_87, e_M_judge_90, e_M_judge_91, e_M_judge_92, e_M_judge_95, e_M_judge_96, e_M_judge_97, e_M_judge_100, e_M_judge_103, e_M_judge_105, sh_o_82, K_M_isCell, K_M_in, K_M_isTape, eq_false ha, pm_opt_some, pm_opt_none, pm_opt_if, Bool.false_eq_true, Bool.not_false, Bool.not_true, if_false, if_true, true_and, and_true, true_or, or_true, not_true_eq_false, not_false_eq_true, q10, q00, q01, q11, pk_v, pk_i, pk_l, pk_r] }⟩)
end P46
