/-! the reference's questions: as it is, loads, who bears, hours -/
section P38
variable {X : pm_X} {d : Nat} {P Q : pm_O → Prop} {g : List pm_S} {S : List pm_S} {I I' B : Nat → Nat → Int32} {J J' : Nat → Nat → Int64} {j w : Nat} {c a b s n k v l : Int32} {fi : Int32} {p : Nat → Int32} {T : Nat → T3}
/-- no lamp -/
def nL (I : Nat → Nat → Int32) : Nat → Nat → Int32 := pm_w I 82 27 (-1)
theorem nL_sfr : sfr I (nL I) := sfr_w82 (by decide)
theorem nL_27 : nL I 82 27 = -1 := by
  unfold nL
  rw [pw_eq, upd_app, if_pos rfl]
theorem lt_no (h : B 82 27 = -1) : ltI B j = 0 := by
  unfold ltI
  rw [h, if_pos (by decide)]
theorem MS_sfr : sfr B (MS B T n p) := by
  refine ⟨fun q hq => MS_fr q ?_, fun k hk => ?_⟩
  · cases hl : [82, 98, 99, 100, 101].contains q with
    | false => rfl
    | true =>
      simp at hl
      rcases hl with rfl | rfl | rfl | rfl | rfl <;> cases hq
  · rw [MS_82, upd_app]
    by_cases e : k = 26
    · subst e
      cases hk
    · rw [if_neg e]
theorem K_M_asIs (hR : Rel I J) : pm_cl X (d + 1) 138 [.ref 82] (pm_S0 ++ g, I, J) P = P (none, (pm_S0 ++ g, MS (nL I) (rowT I 3 4 5) (I 1 4) (I 98), J)) := by
  have e3 : I 83 = I 3 := hR.1.1.1
  have e4 : I 84 = I 4 := hR.1.1.2.1
  have e5 : I 85 = I 5 := hR.1.1.2.2.1
  have e0 : I 82 0 = I 1 4 := hR.1.2.1
  refine K_of (k := 0) (fun d' => ?_)
  show pm_V X d' 138 0 [some (.ref 82), none] [] (pm_S0 ++ g, I, J) _
  have L := fun (Q : pm_O → Prop) => pm_lp0 (fun k => pm_V X d' 138 15 [some (.ref 82), some (.int (nI k))] [] (pm_S0 ++ g, upC (pm_w (pm_w I 82 26 (I 1 4)) 82 27 (-1)) 99 100 101 (rowT I 3 4 5) k, J) Q) 16 (by
    intro k hk
    have h1 : ((16 : Int32) ≤ nI k) = False := by
      rw [show (16 : Int32) = nI 16 from rfl, nI_le_l (by omega) (by omega)]
      exact eq_false (by omega)
    have hb := bad_nI (k := k) (n := 16) hk (by decide)
    have hc := nI_clamp (n := k) (by omega)
    have es := upC_s (I := pm_w (pm_w I 82 26 (I 1 4)) 82 27 (-1)) (n := k) (f := rowT I 3 4 5) (a := 99) (b := 100) (c := 101) (by decide) (by decide) (by decide)
    have rd : ∀ q, ¬ q = 82 → ¬ q = 99 → ¬ q = 100 → ¬ q = 101 → upC (pm_w (pm_w I 82 26 (I 1 4)) 82 27 (-1)) 99 100 101 (rowT I 3 4 5) k q = I q := by
      intro q a1 a2 a3 a4
      funext i
      rw [upC_ne a2 a3 a4, pw_ne a1, pw_ne a1]
    show pm_V X d' 138 15 [some (.ref 82), some (.int (nI k))] [] (pm_S0 ++ g, upC (pm_w (pm_w I 82 26 (I 1 4)) 82 27 (-1)) 99 100 101 (rowT I 3 4 5) k, J) Q = _
    rw [← es, e_M_asIs_15]
    have i3 := p3_id (I := upC (pm_w (pm_w I 82 26 (I 1 4)) 82 27 (-1)) 99 100 101 (rowT I 3 4 5) k) (a := 99) (b := 100) (c := 101) (j := k) (by decide) (by decide) (by decide)
    have n1 : (99 : Nat) ≠ 100 := by decide
    have n2 : (99 : Nat) ≠ 101 := by decide
    have n3 : (100 : Nat) ≠ 101 := by decide
    rw [← i3]
    have r2 : ∀ {x y z : Int32} (q : Nat), ¬ q = 82 → ¬ q = 99 → ¬ q = 100 → ¬ q = 101 → pm_3 (upC (pm_w (pm_w I 82 26 (I 1 4)) 82 27 (-1)) 99 100 101 (rowT I 3 4 5) k) 99 100 101 k x y z q = I q := fun q a1 a2 a3 a4 => (p3_ne a2 a3 a4).trans (rd q a1 a2 a3 a4)
    simp only [e_M_asIs_0, e_M_asIs_1, e_M_asIs_2, e_M_asIs_5, e_M_asIs_8, e_M_asIs_9, e_M_asIs_10, e_M_asIs_13, e_M_asIs_14, e_M_asIs_16, e_M_asIs_18, e_M_asIs_21, e_M_asIs_22, e_M_asIs_25, e_M_asIs_26, e_M_asIs_27, e_M_asIs_30, e_M_asIs_31, e_M_asIs_32, e_M_asIs_33, e_M_asIs_34, e_M_asIs_37, e_M_asIs_38, e_M_asIs_39, e_M_asIs_42, e_M_asIs_43, e_M_asIs_44, e_M_asIs_45, e_M_asIs_46, e_M_asIs_49, e_M_asIs_50, e_M_asIs_51, e_M_asIs_54, e_M_asIs_55, e_M_asIs_56, e_M_asIs_57, e_M_asIs_60, e_M_asIs_63, h1, sh_r_82_2, sh_r_82_3, sh_r_82_4, sh_r_82_28, sh_r_82_29, sh_r_82_30, sh_i_83, sh_i_84, sh_i_85, sh_w_99, sh_w_100, sh_w_101, hb, hc, r2 83 (by decide) (by decide) (by decide) (by decide), r2 84 (by decide) (by decide) (by decide) (by decide), r2 85 (by decide) (by decide) (by decide) (by decide), p3_wa, p3_wb n1, p3_wc n2 n3, e3, e4, e5, nI_1, pm_opt_some, pm_opt_none, pm_opt_if, Bool.false_eq_true, Bool.not_false, Bool.not_true, if_false, if_true, true_and, and_true, true_or, or_true, not_true_eq_false, not_false_eq_true, q10, q00, q01, q11, pk_v, pk_i, pk_l, pk_r]
    rw [i3]
    rfl) 16 0 (by omega)
  simp only [upC_0, nI_0] at L
  have h16 : ((16 : Int32) ≤ nI 16) = True := by decide
  simp only [e_M_asIs_0, e_M_asIs_1, e_M_asIs_2, e_M_asIs_5, e_M_asIs_8, e_M_asIs_9, e_M_asIs_10, e_M_asIs_13, e_M_asIs_14, e_M_asIs_16, e_M_asIs_18, e_M_asIs_21, e_M_asIs_22, e_M_asIs_25, e_M_asIs_26, e_M_asIs_27, e_M_asIs_30, e_M_asIs_31, e_M_asIs_32, e_M_asIs_33, e_M_asIs_34, e_M_asIs_37, e_M_asIs_38, e_M_asIs_39, e_M_asIs_42, e_M_asIs_43, e_M_asIs_44, e_M_asIs_45, e_M_asIs_46, e_M_asIs_49, e_M_asIs_50, e_M_asIs_51, e_M_asIs_54, e_M_asIs_55, e_M_asIs_56, e_M_asIs_57, e_M_asIs_60, e_M_asIs_63, sh_o_82, e0, pm_opt_some, pm_opt_none, pm_opt_if, Bool.false_eq_true, Bool.not_false, Bool.not_true, if_false, if_true, true_and, and_true, true_or, or_true, not_true_eq_false, not_false_eq_true, q10, q00, q01, q11, pk_v, pk_i, pk_l, pk_r]
  rw [L]
  simp only [e_M_asIs_0, e_M_asIs_1, e_M_asIs_2, e_M_asIs_5, e_M_asIs_8, e_M_asIs_9, e_M_asIs_10, e_M_asIs_13, e_M_asIs_14, e_M_asIs_15, e_M_asIs_16, e_M_asIs_18, e_M_asIs_21, e_M_asIs_22, e_M_asIs_25, e_M_asIs_26, e_M_asIs_27, e_M_asIs_30, e_M_asIs_31, e_M_asIs_32, e_M_asIs_33, e_M_asIs_34, e_M_asIs_37, e_M_asIs_38, e_M_asIs_39, e_M_asIs_42, e_M_asIs_43, e_M_asIs_44, e_M_asIs_45, e_M_asIs_46, e_M_asIs_49, e_M_asIs_50, e_M_asIs_51, e_M_asIs_54, e_M_asIs_55, e_M_asIs_56, e_M_asIs_57, e_M_asIs_60, e_M_asIs_63, h16, pm_opt_some, pm_opt_none, pm_opt_if, Bool.false_eq_true, Bool.not_false, Bool.not_true, if_false, if_true, true_and, and_true, true_or, or_true, not_true_eq_false, not_false_eq_true, q10, q00, q01, q11, pk_v, pk_i, pk_l, pk_r]
  congr 3
  unfold MS nL
  rw [show I 98 = pm_w (pm_w I 82 27 (-1)) 82 26 (I 1 4) 98 by simp only [pw_eq, pw_ne, pu_eq, pu_ne, upd_app, Nat.reduceEqDiff, not_false_eq_true, if_false, if_true], pu_self]
  congr 1
  funext q i
  simp only [pm_w_app]
  by_cases q1 : q = 82
  · by_cases q2 : i = 27
    · subst q2
      simp [q1]
    · simp [q1, q2]
  · simp [q1]
theorem MS_rd {q : Nat} (h : ¬ q = 82 ∧ ¬ q = 98 ∧ ¬ q = 99 ∧ ¬ q = 100 ∧ ¬ q = 101) : MS B T n p q = B q := MS_fr q (by simp [h])
theorem MS_82k {k : Nat} (h : ¬ k = 26) : MS B T n p 82 k = B 82 k := by rw [MS_82, upd_app, if_neg h]
theorem MS_up {q : Nat} {F : Nat → Int32} (h : ¬ q = 82 ∧ ¬ q = 98 ∧ ¬ q = 99 ∧ ¬ q = 100 ∧ ¬ q = 101) : pm_up (MS B T n p) q F = MS (pm_up B q F) T n p := by
  funext r i
  unfold MS upC
  by_cases e : r = q
  · subst e
    rw [pu_eq]
    simp only [h, and_false, if_false]
    rw [pu_ne h.2.1, pw_ne h.1, pu_eq]
  · rw [pu_ne e]
    have e2 : pm_up (pm_w (pm_up B q F) 82 26 n) 98 p r = pm_up (pm_w B 82 26 n) 98 p r := by
      by_cases e3 : r = 98
      · subst e3
        rw [pu_eq, pu_eq]
      · rw [pu_ne e3, pu_ne e3]
        funext i
        rw [pm_w_app, pm_w_app, pu_ne e]
    rw [e2]
theorem MS_WX (hX : WX B w fi) : WX (MS B T n p) w fi := fr_WX (by decide) MS_fr hX
theorem K_M_bears (hX : WX B w (B 82 10)) (hj : j < 16) : pm_cl X (d + 2) 147 [.ref 82, .int (nI j), .int l] (pm_S0 ++ g, MS B T n p, J) P = if beI (thT (T j)) l (wbI B w) = true then P (some (.int 1), (pm_S0 ++ g, MS B T n p, J)) else P (some (.int 0), (pm_S0 ++ g, MS B T n p, J)) := by
  have hX' : WX (MS B T n p) w (MS B T n p 82 10) := by
    rw [MS_82k (by decide)]
    exact MS_WX hX
  have ew : wbI (MS B T n p) w = wbI B w := fr_wb (by decide) MS_fr (WX_is hX)
  have A : ∀ (d' : Nat) (Q : pm_O → Prop), pm_V X (d' + 1) 147 0 [some (.ref 82), some (.int (nI j)), some (.int l)] [] (pm_S0 ++ g, MS B T n p, J) Q = if beI (thT (T j)) l (wbI B w) = true then Q (some (.int 1), (pm_S0 ++ g, MS B T n p, J)) else Q (some (.int 0), (pm_S0 ++ g, MS B T n p, J)) := by
    intro d' Q
    have hb0 : ¬ wbI B w = 0 := maxI_1 _
    simp only [e_M_bears_0, e_M_bears_1, e_M_bears_4, e_M_bears_5, e_M_bears_6, e_M_bears_9, e_M_bears_12, e_M_bears_13, e_M_bears_14, e_M_bears_17, e_M_bears_18, e_M_bears_19, e_M_bears_22, e_M_bears_23, e_M_bears_24, e_M_bears_27, e_M_bears_28, e_M_bears_29, e_M_bears_32, e_M_bears_33, e_M_bears_36, e_M_bears_37, sh_o_82, K_M_thickT hj, K_M_bearsNow hX', ew, hb0, pm_opt_some, pm_opt_none, pm_opt_if, Bool.false_eq_true, Bool.not_false, Bool.not_true, if_false, if_true, true_and, and_true, true_or, or_true, not_true_eq_false, not_false_eq_true, q10, q00, q01, q11, pk_v, pk_i, pk_l, pk_r]
    unfold beI
    by_cases q1 : l = 0
    · simp [q1]
    · by_cases q2 : thT (T j) ≤ 0
      · have q2' : ¬ 0 < thT (T j) := Int32.not_lt.mpr q2
        simp [q1, q2, q2']
      · have q2' : 0 < thT (T j) := Int32.not_le.mp q2
        by_cases q3 : thT (T j) * thT (T j) / wbI B w < l
        · have q3' : ¬ l ≤ thT (T j) * thT (T j) / wbI B w := Int32.not_le.mpr q3
          simp [q1, q2, q2', q3, q3']
        · have q3' : l ≤ thT (T j) * thT (T j) / wbI B w := Int32.not_lt.mp q3
          simp [q1, q2, q2', q3, q3']
  refine K_if (k := 1) (fun hq d' => ?_) (fun hq d' => ?_)
  · show pm_V X (d' + 1) 147 0 [some (.ref 82), some (.int (nI j)), some (.int l)] [] (pm_S0 ++ g, MS B T n p, J) _
    rw [A, if_pos hq]
  · show pm_V X (d' + 1) 147 0 [some (.ref 82), some (.int (nI j)), some (.int l)] [] (pm_S0 ++ g, MS B T n p, J) _
    rw [A, if_neg hq]
theorem upd_upd {f : Nat → Int32} {k : Nat} {a b : Int32} : upd (upd f k a) k b = upd f k b := by
  funext i
  simp only [upd_app]
  by_cases e : i = k
  · simp [e]
  · simp [e]
/-- LOADS of the reference, CHILDREN in the columns below one -/
def ldC (f : Nat → Int32) (m : Nat) : Nat → Int32 := fun o => if o % 4 < m then f o else 0
theorem near_all : ∀ c, c < 16 → ∀ o, o < 16 → ((nearE (1 <<< (nI c &&& 31)) >>> (nI o &&& 31) &&& 1 = 1) ↔ nrB (nI o) (nI c) = true) := by decide +kernel
theorem near_self : ∀ c, c < 16 → nrB (nI c) (nI c) = false := by decide +kernel
theorem col_all : ∀ m, m < 5 → ∀ o, o < 16 → ((nI m ≤ nI o - nI o / 4 * 4) ↔ ¬ o % 4 < m) := by decide +kernel
theorem ld_eq {f : Nat → Int32} {m : Nat} (hj : j < 16) : fld (fun o a => if o % 4 < m then a + (if o = j then 2 * f o else if nrB (nI o) (nI j) = true then f o else 0) else a) 0 16 0 = ldI (ldC f m) j := by
  unfold ldI
  have e1 : 2 * ldC f m j = sumR (fun o => if o = j then 2 * ldC f m j else 0) 0 16 := (sumR_one 16 0 (by omega) (by omega)).symm
  rw [e1, ← sumR_add, ← sumR_0]
  refine fld_congr _ _ _ (fun o a h1 h2 => ?_)
  have hn := near_all j hj o (by omega)
  unfold ldC
  by_cases q1 : o % 4 < m
  · by_cases q2 : o = j
    · subst q2
      have hs := near_self o hj
      have hn' : ¬ (nearE (1 <<< (nI o &&& 31)) >>> (nI o &&& 31) &&& 1 = 1) := by
        rw [hn, hs]
        decide
      simp [q1, hn']
    · by_cases q3 : nrB (nI o) (nI j) = true
      · simp [q1, q2, q3, hn.mpr q3]
      · have hn' : ¬ (nearE (1 <<< (nI j &&& 31)) >>> (nI o &&& 31) &&& 1 = 1) := fun z => q3 (hn.mp z)
        simp [q1, q2, q3, hn']
  · by_cases q2 : o = j
    · subst q2
      have hs := near_self o hj
      have hn' : ¬ (nearE (1 <<< (nI o &&& 31)) >>> (nI o &&& 31) &&& 1 = 1) := by
        rw [hn, hs]
        decide
      simp [q1, hn']
    · simp [q1, q2]
theorem ldC_4 {f : Nat → Int32} : ldC f 4 = f := by
  funext o
  unfold ldC
  rw [if_pos (Nat.mod_lt _ (by decide))]
theorem K_M_layLoads {m : Nat} (hm : m < 5) (h86 : I 86 = I 6) : pm_cl X (d + 2) 146 [.ref 82, .int (nI m)] (pm_S0 ++ g, I, J) P = P (none, (pm_S0 ++ g, pm_up I 102 (fun i => if i < 16 then ldI (ldC (I 6) m) i else I 102 i), J)) := by
  refine K_of (k := 1) (fun d' => ?_)
  show pm_V X (d' + 1) 146 0 [some (.ref 82), some (.int (nI m)), none, none] [] (pm_S0 ++ g, I, J) _
  have L := fun (Q : pm_O → Prop) => pm_lpR (fun k (l3 : Option Value) => pm_V X (d' + 1) 146 2 [some (.ref 82), some (.int (nI m)), some (.int (nI k)), l3] [] (pm_S0 ++ g, pm_up I 102 (fun i => if i < k then ldI (ldC (I 6) m) i else I 102 i), J) Q) (fun _ _ => True) 16 (by
    intro k l3 hk _
    have h1 : ((16 : Int32) ≤ nI k) = False := by
      rw [show (16 : Int32) = nI 16 from rfl, nI_le_l (by omega) (by omega)]
      exact eq_false (by omega)
    have hb := bad_nI (k := k) (n := 16) hk (by decide)
    have hc := nI_clamp (n := k) (by omega)
    -- the inner loop
    have L2 := pm_lp (fun o a => pm_V X (d' + 1) 146 17 [some (.ref 82), some (.int (nI m)), some (.int (nI k)), some (.int (nI o))] [] (pm_S0 ++ g, pm_up I 102 (upd (fun i => if i < k then ldI (ldC (I 6) m) i else I 102 i) k a), J) Q) (fun o a => if o % 4 < m then a + (if o = k then 2 * I 6 o else if nrB (nI o) (nI k) = true then I 6 o else 0) else a) 16 (by
      intro o a ho
      have h2 : ((16 : Int32) ≤ nI o) = False := by
        rw [show (16 : Int32) = nI 16 from rfl, nI_le_l (by omega) (by omega)]
        exact eq_false (by omega)
      have hbo := bad_nI (k := o) (n := 16) ho (by decide)
      have hco := nI_clamp (n := o) (by omega)
      have hcol : (nI m ≤ nI o - nI o / 4 * 4) = ¬ o % 4 < m := propext (col_all m hm o ho)
      have hok : (nI o = nI k) = (o = k) := propext (nI_eq (by omega) (by omega))
      show pm_V X (d' + 1) 146 17 [some (.ref 82), some (.int (nI m)), some (.int (nI k)), some (.int (nI o))] [] (pm_S0 ++ g, pm_up I 102 (upd (fun i => if i < k then ldI (ldC (I 6) m) i else I 102 i) k a), J) Q = _
      rw [e_M_layLoads_17]
      simp only [e_M_layLoads_0, e_M_layLoads_1, e_M_layLoads_3, e_M_layLoads_5, e_M_layLoads_8, e_M_layLoads_9, e_M_layLoads_12, e_M_layLoads_13, e_M_layLoads_14, e_M_layLoads_15, e_M_layLoads_16, e_M_layLoads_18, e_M_layLoads_20, e_M_layLoads_23, e_M_layLoads_24, e_M_layLoads_25, e_M_layLoads_26, e_M_layLoads_27, e_M_layLoads_30, e_M_layLoads_31, e_M_layLoads_34, e_M_layLoads_35, e_M_layLoads_36, e_M_layLoads_37, e_M_layLoads_38, e_M_layLoads_39, e_M_layLoads_42, e_M_layLoads_43, e_M_layLoads_44, e_M_layLoads_47, e_M_layLoads_48, e_M_layLoads_49, e_M_layLoads_50, e_M_layLoads_53, e_M_layLoads_54, e_M_layLoads_55, e_M_layLoads_56, e_M_layLoads_59, e_M_layLoads_62, e_M_layLoads_63, e_M_layLoads_66, e_M_layLoads_67, e_M_layLoads_68, e_M_layLoads_71, e_M_layLoads_72, e_M_layLoads_73, e_M_layLoads_74, e_M_layLoads_77, e_M_layLoads_80, e_M_layLoads_83, e_M_layLoads_86, h2, q4z, hcol, hok, sh_o_82, sh_r_82_5, sh_r_82_31, sh_i_86, sh_i_102, sh_w_102, hb, hc, hbo, hco, pu_eq, pu_ne, Nat.reduceEqDiff, h86, upd_app, pw98, K_M_areNear, nI_1, pm_opt_some, pm_opt_none, pm_opt_if, Bool.false_eq_true, Bool.not_false, Bool.not_true, if_false, if_true, true_and, and_true, true_or, or_true, not_true_eq_false, not_false_eq_true, q10, q00, q01, q11, pk_v, pk_i, pk_l, pk_r]
      by_cases q1 : o % 4 < m
      · by_cases q2 : o = k
        · subst q2
          simp [q1, upd_upd]
        · by_cases q3 : nrB (nI o) (nI k) = true
          · simp [q1, q2, q3, upd_upd]
          · simp [q1, q2, q3, upd_upd]
      · simp [q1, upd_upd]) 16 0 0 (by omega)
    rw [ld_eq hk] at L2
    refine ⟨some (.int (nI 16)), trivial, ?_⟩
    show pm_V X (d' + 1) 146 2 [some (.ref 82), some (.int (nI m)), some (.int (nI k)), l3] [] (pm_S0 ++ g, pm_up I 102 (fun i => if i < k then ldI (ldC (I 6) m) i else I 102 i), J) Q = _
    rw [e_M_layLoads_2]
    rw [nI_0] at L2
    have h16 : ((16 : Int32) ≤ nI 16) = True := by decide
    simp only [e_M_layLoads_0, e_M_layLoads_1, e_M_layLoads_3, e_M_layLoads_5, e_M_layLoads_8, e_M_layLoads_9, e_M_layLoads_12, e_M_layLoads_13, e_M_layLoads_14, e_M_layLoads_15, e_M_layLoads_16, e_M_layLoads_18, e_M_layLoads_20, e_M_layLoads_23, e_M_layLoads_24, e_M_layLoads_25, e_M_layLoads_26, e_M_layLoads_27, e_M_layLoads_30, e_M_layLoads_31, e_M_layLoads_34, e_M_layLoads_35, e_M_layLoads_36, e_M_layLoads_37, e_M_layLoads_38, e_M_layLoads_39, e_M_layLoads_42, e_M_layLoads_43, e_M_layLoads_44, e_M_layLoads_47, e_M_layLoads_48, e_M_layLoads_49, e_M_layLoads_50, e_M_layLoads_53, e_M_layLoads_54, e_M_layLoads_55, e_M_layLoads_56, e_M_layLoads_59, e_M_layLoads_62, e_M_layLoads_63, e_M_layLoads_66, e_M_layLoads_67, e_M_layLoads_68, e_M_layLoads_71, e_M_layLoads_72, e_M_layLoads_73, e_M_layLoads_74, e_M_layLoads_77, e_M_layLoads_80, e_M_layLoads_83, e_M_layLoads_86, h1, sh_r_82_31, sh_w_102, hb, hc, pw98, pm_opt_some, pm_opt_none, pm_opt_if, Bool.false_eq_true, Bool.not_false, Bool.not_true, if_false, if_true, true_and, and_true, true_or, or_true, not_true_eq_false, not_false_eq_true, q10, q00, q01, q11, pk_v, pk_i, pk_l, pk_r]
    rw [L2, e_M_layLoads_17]
    simp only [e_M_layLoads_0, e_M_layLoads_1, e_M_layLoads_3, e_M_layLoads_5, e_M_layLoads_8, e_M_layLoads_9, e_M_layLoads_12, e_M_layLoads_13, e_M_layLoads_14, e_M_layLoads_15, e_M_layLoads_16, e_M_layLoads_18, e_M_layLoads_20, e_M_layLoads_23, e_M_layLoads_24, e_M_layLoads_25, e_M_layLoads_26, e_M_layLoads_27, e_M_layLoads_30, e_M_layLoads_31, e_M_layLoads_34, e_M_layLoads_35, e_M_layLoads_36, e_M_layLoads_37, e_M_layLoads_38, e_M_layLoads_39, e_M_layLoads_42, e_M_layLoads_43, e_M_layLoads_44, e_M_layLoads_47, e_M_layLoads_48, e_M_layLoads_49, e_M_layLoads_50, e_M_layLoads_53, e_M_layLoads_54, e_M_layLoads_55, e_M_layLoads_56, e_M_layLoads_59, e_M_layLoads_62, e_M_layLoads_63, e_M_layLoads_66, e_M_layLoads_67, e_M_layLoads_68, e_M_layLoads_71, e_M_layLoads_72, e_M_layLoads_73, e_M_layLoads_74, e_M_layLoads_77, e_M_layLoads_80, e_M_layLoads_83, e_M_layLoads_86, h16, nI_1, pm_opt_some, pm_opt_none, pm_opt_if, Bool.false_eq_true, Bool.not_false, Bool.not_true, if_false, if_true, true_and, and_true, true_or, or_true, not_true_eq_false, not_false_eq_true, q10, q00, q01, q11, pk_v, pk_i, pk_l, pk_r]
    have e : upd (fun i => if i < k then ldI (ldC (I 6) m) i else I 102 i) k (ldI (ldC (I 6) m) k) = (fun i => if i < k + 1 then ldI (ldC (I 6) m) i else I 102 i) := by
      funext i
      rw [upd_app]
      by_cases q2 : i = k
      · subst q2; simp
      · have : (i < k + 1) = (i < k) := propext (by omega)
        simp [q2, this]
    rw [e]) 16 0 none (by omega) trivial
  obtain ⟨l3, _, L'⟩ := L (fun q => q = (none, (pm_S0 ++ g, pm_up I 102 (fun i => if i < 16 then ldI (ldC (I 6) m) i else I 102 i), J)))
  have e0 : pm_up I 102 (fun i => if i < 0 then ldI (ldC (I 6) m) i else I 102 i) = I := by
    simp only [Nat.not_lt_zero, if_false]
    exact pu_self
  rw [e0, nI_0] at L'
  have h16 : ((16 : Int32) ≤ nI 16) = True := by decide
  simp only [e_M_layLoads_0, e_M_layLoads_1, e_M_layLoads_3, e_M_layLoads_5, e_M_layLoads_8, e_M_layLoads_9, e_M_layLoads_12, e_M_layLoads_13, e_M_layLoads_14, e_M_layLoads_15, e_M_layLoads_16, e_M_layLoads_18, e_M_layLoads_20, e_M_layLoads_23, e_M_layLoads_24, e_M_layLoads_25, e_M_layLoads_26, e_M_layLoads_27, e_M_layLoads_30, e_M_layLoads_31, e_M_layLoads_34, e_M_layLoads_35, e_M_layLoads_36, e_M_layLoads_37, e_M_layLoads_38, e_M_layLoads_39, e_M_layLoads_42, e_M_layLoads_43, e_M_layLoads_44, e_M_layLoads_47, e_M_layLoads_48, e_M_layLoads_49, e_M_layLoads_50, e_M_layLoads_53, e_M_layLoads_54, e_M_layLoads_55, e_M_layLoads_56, e_M_layLoads_59, e_M_layLoads_62, e_M_layLoads_63, e_M_layLoads_66, e_M_layLoads_67, e_M_layLoads_68, e_M_layLoads_71, e_M_layLoads_72, e_M_layLoads_73, e_M_layLoads_74, e_M_layLoads_77, e_M_layLoads_80, e_M_layLoads_83, e_M_layLoads_86]
  rw [L', e_M_layLoads_2]
  simp only [e_M_layLoads_0, e_M_layLoads_1, e_M_layLoads_3, e_M_layLoads_5, e_M_layLoads_8, e_M_layLoads_9, e_M_layLoads_12, e_M_layLoads_13, e_M_layLoads_14, e_M_layLoads_15, e_M_layLoads_16, e_M_layLoads_18, e_M_layLoads_20, e_M_layLoads_23, e_M_layLoads_24, e_M_layLoads_25, e_M_layLoads_26, e_M_layLoads_27, e_M_layLoads_30, e_M_layLoads_31, e_M_layLoads_34, e_M_layLoads_35, e_M_layLoads_36, e_M_layLoads_37, e_M_layLoads_38, e_M_layLoads_39, e_M_layLoads_42, e_M_layLoads_43, e_M_layLoads_44, e_M_layLoads_47, e_M_layLoads_48, e_M_layLoads_49, e_M_layLoads_50, e_M_layLoads_53, e_M_layLoads_54, e_M_layLoads_55, e_M_layLoads_56, e_M_layLoads_59, e_M_layLoads_62, e_M_layLoads_63, e_M_layLoads_66, e_M_layLoads_67, e_M_layLoads_68, e_M_layLoads_71, e_M_layLoads_72, e_M_layLoads_73, e_M_layLoads_74, e_M_layLoads_77, e_M_layLoads_80, e_M_layLoads_83, e_M_layLoads_86, h16, pm_opt_some, pm_opt_none, pm_opt_if, Bool.false_eq_true, Bool.not_false, Bool.not_true, if_false, if_true, true_and, and_true, true_or, or_true, not_true_eq_false, not_false_eq_true, q10, q00, q01, q11, pk_v, pk_i, pk_l, pk_r]
/-- on the told cells -/
theorem K_M_layL {m : Nat} (hm : m < 5) (h86 : B 86 = B 6) : pm_cl X (d + 2) 146 [.ref 82, .int (nI m)] (pm_S0 ++ g, MS B T n p, J) P = P (none, (pm_S0 ++ g, MS (pm_up B 102 (fun i => if i < 16 then ldI (ldC (B 6) m) i else B 102 i)) T n p, J)) := by
  rw [K_M_layLoads hm (by rw [MS_rd (by decide), MS_rd (by decide)]; exact h86), MS_rd (q := 6) (by decide), MS_rd (q := 102) (by decide), MS_up (by decide)]
theorem K_M_bearsAll (h86 : B 86 = B 6) (hX : WX B w (B 82 10)) : pm_cl X (d + 4) 148 [.ref 82] (pm_S0 ++ g, MS B T n p, J) P = if allF (fun k => beI (thT (T k)) (ldI (B 6) k) (wbI B w)) 0 16 = true then P (some (.int 1), (pm_S0 ++ g, MS (pm_up B 102 (fun i => if i < 16 then ldI (B 6) i else B 102 i)) T n p, J)) else P (some (.int 0), (pm_S0 ++ g, MS (pm_up B 102 (fun i => if i < 16 then ldI (B 6) i else B 102 i)) T n p, J)) := by
  have hX' : WX (pm_up B 102 (fun i => if i < 16 then ldI (B 6) i else B 102 i)) w (pm_up B 102 (fun i => if i < 16 then ldI (B 6) i else B 102 i) 82 10) := by
    rw [pu_ne (by decide)]
    exact fr_WX (L := [102]) (by decide) (pm_fr_up (by decide)) hX
  have ew : wbI (pm_up B 102 (fun i => if i < 16 then ldI (B 6) i else B 102 i)) w = wbI B w := fr_wb (L := [102]) (by decide) (pm_fr_up (by decide)) (WX_is hX)
  have L := fun (d : Nat) (Q : pm_O → Prop) => pm_all (fun k => pm_V X (d + 3) 148 7 [some (.ref 82), some (.int (nI k))] [] (pm_S0 ++ g, MS (pm_up B 102 (fun i => if i < 16 then ldI (B 6) i else B 102 i)) T n p, J) Q) (fun k => beI (thT (T k)) (ldI (B 6) k) (wbI B w)) (Q (some (.int 0), (pm_S0 ++ g, MS (pm_up B 102 (fun i => if i < 16 then ldI (B 6) i else B 102 i)) T n p, J))) 16 (by
    intro k hk
    have h1 : ((16 : Int32) ≤ nI k) = False := by
      rw [show (16 : Int32) = nI 16 from rfl, nI_le_l (by omega) (by omega)]
      exact eq_false (by omega)
    have hb := bad_nI (k := k) (n := 16) hk (by decide)
    have hc := nI_clamp (n := k) (by omega)
    have e102 : MS (pm_up B 102 (fun i => if i < 16 then ldI (B 6) i else B 102 i)) T n p 102 k = ldI (B 6) k := by
      rw [MS_rd (by decide), pu_eq, if_pos hk]
    have hbe := fun (d : Nat) (P : pm_O → Prop) => K_M_bears (X := X) (d := d) (P := P) (g := g) (J := J) (T := T) (n := n) (p := p) (l := ldI (B 6) k) hX' hk
    rw [ew] at hbe
    show pm_V X (d + 3) 148 7 [some (.ref 82), some (.int (nI k))] [] (pm_S0 ++ g, MS (pm_up B 102 (fun i => if i < 16 then ldI (B 6) i else B 102 i)) T n p, J) Q = _
    rw [e_M_bearsAll_7]
    simp only [e_M_bearsAll_0, e_M_bearsAll_1, e_M_bearsAll_2, e_M_bearsAll_5, e_M_bearsAll_6, e_M_bearsAll_8, e_M_bearsAll_10, e_M_bearsAll_13, e_M_bearsAll_14, e_M_bearsAll_15, e_M_bearsAll_16, e_M_bearsAll_19, e_M_bearsAll_20, e_M_bearsAll_21, e_M_bearsAll_24, e_M_bearsAll_27, e_M_bearsAll_28, e_M_bearsAll_29, e_M_bearsAll_32, e_M_bearsAll_35, e_M_bearsAll_36, h1, sh_o_82, sh_r_82_31, sh_i_102, hb, hc, e102, hbe, nI_1, pm_opt_some, pm_opt_none, pm_opt_if, Bool.false_eq_true, Bool.not_false, Bool.not_true, if_false, if_true, true_and, and_true, true_or, or_true, not_true_eq_false, not_false_eq_true, q10, q00, q01, q11, pk_v, pk_i, pk_l, pk_r]) 16 0 (by omega)
  have h16 : ((16 : Int32) ≤ nI 16) = True := by decide
  have lay := fun (d : Nat) (P : pm_O → Prop) => K_M_layL (X := X) (d := d) (P := P) (g := g) (J := J) (T := T) (n := n) (p := p) (m := 4) (by decide) h86
  simp only [ldC_4, show nI 4 = 4 from rfl] at lay
  have A : ∀ (d : Nat) (Q : pm_O → Prop), pm_V X (d + 3) 148 0 [some (.ref 82), none] [] (pm_S0 ++ g, MS B T n p, J) Q = if allF (fun k => beI (thT (T k)) (ldI (B 6) k) (wbI B w)) 0 16 = true then Q (some (.int 1), (pm_S0 ++ g, MS (pm_up B 102 (fun i => if i < 16 then ldI (B 6) i else B 102 i)) T n p, J)) else Q (some (.int 0), (pm_S0 ++ g, MS (pm_up B 102 (fun i => if i < 16 then ldI (B 6) i else B 102 i)) T n p, J)) := by
    intro d Q
    have L' := L d Q
    rw [nI_0] at L'
    simp only [e_M_bearsAll_0, e_M_bearsAll_1, e_M_bearsAll_2, e_M_bearsAll_5, e_M_bearsAll_6, e_M_bearsAll_8, e_M_bearsAll_10, e_M_bearsAll_13, e_M_bearsAll_14, e_M_bearsAll_15, e_M_bearsAll_16, e_M_bearsAll_19, e_M_bearsAll_20, e_M_bearsAll_21, e_M_bearsAll_24, e_M_bearsAll_27, e_M_bearsAll_28, e_M_bearsAll_29, e_M_bearsAll_32, e_M_bearsAll_35, e_M_bearsAll_36, sh_o_82, lay, pm_opt_some, pm_opt_none, pm_opt_if, Bool.false_eq_true, Bool.not_false, Bool.not_true, if_false, if_true, true_and, and_true, true_or, or_true, not_true_eq_false, not_false_eq_true, q10, q00, q01, q11, pk_v, pk_i, pk_l, pk_r]
    rw [L', e_M_bearsAll_7]
    simp only [e_M_bearsAll_8, e_M_bearsAll_10, e_M_bearsAll_35, e_M_bearsAll_36, h16, pm_opt_some, pm_opt_none, pm_opt_if, Bool.false_eq_true, Bool.not_false, Bool.not_true, if_false, if_true, true_and, and_true, true_or, or_true, not_true_eq_false, not_false_eq_true, q10, q00, q01, q11, pk_v, pk_i, pk_l, pk_r]
  refine K_if (k := 3) (fun hq d' => ?_) (fun hq d' => ?_)
  · show pm_V X (d' + 3) 148 0 [some (.ref 82), none] [] (pm_S0 ++ g, MS B T n p, J) _
    rw [A, if_pos hq]
  · show pm_V X (d' + 3) 148 0 [some (.ref 82), none] [] (pm_S0 ++ g, MS B T n p, J) _
    rw [A, if_neg hq]
/-- hours of the reference -/
def hrM (I : Nat → Nat → Int32) (w : Nat) (h0 n : Nat) (T : Nat → T3) : Nat → T3 := fld (fun i T => stM I w (nI (h0 + i)) (wmI I (nI (h0 + i))) T) 0 n T
theorem hrM_ok {h0 m : Nat} (hX : WX B w fi) (hM : MC B) (hT : Tok T) : Tok (hrM B w h0 m T) := fld_inv (fun _ T => Tok T) m 0 T (fun i T _ _ h => stM_ok hX hM h) hT
theorem hrM_no {h0 m : Nat} (h : B 82 27 = -1) : hrM B w h0 m T = hrT B w 0 h0 m T := by
  unfold hrM hrT
  refine fld_congr _ _ _ (fun i T _ _ => ?_)
  unfold stM hsT stT
  funext k
  rw [lt_no h]
theorem K_M_goHours {m h0 : Nat} (hX : WX B w (B 82 10)) (hM : MC B) (h1 : B 82 1 = B 1 5) (hT : Tok T) (hm : m < 100000) : ∃ p', ∀ (d : Nat) (P : pm_O → Prop), pm_cl X (d + 8) 145 [.ref 82, .int (nI m)] (pm_S0 ++ g, MS B T (nI h0) p, J) P = P (none, (pm_S0 ++ g, MS B (hrM B w h0 m T) (nI (h0 + m)) p', J)) := by
  have A : ∀ (k i : Nat) (T : Nat → T3) (p : Nat → Int32), i + k = m → Tok T → ∃ p', ∀ (d : Nat) (Q : pm_O → Prop), pm_V X (d + 7) 145 2 [some (.ref 82), some (.int (nI m)), some (.int (nI i))] [] (pm_S0 ++ g, MS B T (nI (h0 + i)) p, J) Q = Q (none, (pm_S0 ++ g, MS B (fld (fun i T => stM B w (nI (h0 + i)) (wmI B (nI (h0 + i))) T) i k T) (nI (h0 + m)) p', J)) := by
    intro k
    induction k with
    | zero =>
      intro i T p hi hT
      obtain rfl : i = m := by omega
      refine ⟨p, fun d Q => ?_⟩
      rw [e_M_goHours_2]
      simp only [e_M_goHours_0, e_M_goHours_1, e_M_goHours_3, e_M_goHours_4, e_M_goHours_7, e_M_goHours_8, e_M_goHours_9, e_M_goHours_12, e_M_goHours_13, e_M_goHours_14, e_M_goHours_17, e_M_goHours_20, e_M_goHours_23, e_M_goHours_26, e_M_goHours_29, Int32.le_refl, fld, pm_opt_some, pm_opt_none, pm_opt_if, Bool.false_eq_true, Bool.not_false, Bool.not_true, if_false, if_true, true_and, and_true, true_or, or_true, not_true_eq_false, not_false_eq_true, q10, q00, q01, q11, pk_v, pk_i, pk_l, pk_r]
    | succ k ih =>
      intro i T p hi hT
      obtain ⟨p1, h2⟩ := K_M_goHour (X := X) (g := g) (J := J) (n := nI (h0 + i)) (p := p) hX hM hT (wmI_01 (I := B) (h := nI (h0 + i)))
      obtain ⟨p', h3⟩ := ih (i + 1) _ p1 (by omega) (stM_ok (hour := nI (h0 + i)) (warm := wmI B (nI (h0 + i))) hX hM hT)
      refine ⟨p', fun d Q => ?_⟩
      have hlt : (nI m ≤ nI i) = False := by
        rw [nI_le_l (by omega) (by omega)]
        exact eq_false (by omega)
      have e10 : MS B T (nI (h0 + i)) p 82 10 = B 82 10 := MS_82k (by decide)
      have e26 : MS B T (nI (h0 + i)) p 82 26 = nI (h0 + i) := by rw [MS_82]; simp [upd]
      have ewm : (if dayI (nI (h0 + i)) < 10 ∧ MS B T (nI (h0 + i)) p 82 1 >>> (dayI (nI (h0 + i)) &&& 31) &&& 1 = 1 then (1 : Int32) else 0) = wmI B (nI (h0 + i)) := by
        rw [MS_82k (by decide), h1]
        rfl
      rw [fld, ← h3 d Q, e_M_goHours_2]
      simp only [e_M_goHours_0, e_M_goHours_1, e_M_goHours_3, e_M_goHours_4, e_M_goHours_7, e_M_goHours_8, e_M_goHours_9, e_M_goHours_12, e_M_goHours_13, e_M_goHours_14, e_M_goHours_17, e_M_goHours_20, e_M_goHours_23, e_M_goHours_26, e_M_goHours_29, hlt, sh_o_82, e10, e26, K_M_isWarm, ewm, h2, nI_1, pm_opt_some, pm_opt_none, pm_opt_if, Bool.false_eq_true, Bool.not_false, Bool.not_true, if_false, if_true, true_and, and_true, true_or, or_true, not_true_eq_false, not_false_eq_true, q10, q00, q01, q11, pk_v, pk_i, pk_l, pk_r]
      rfl
  obtain ⟨p', h2⟩ := A m 0 T p (by omega) hT
  refine ⟨p', fun d P => ?_⟩
  refine K_of (k := 7) (fun d' => ?_)
  show pm_V X (d' + 7) 145 0 [some (.ref 82), some (.int (nI m)), none] [] (pm_S0 ++ g, MS B T (nI h0) p, J) _
  rw [nI_0, Nat.add_zero] at h2
  simp only [e_M_goHours_0, e_M_goHours_1, e_M_goHours_3, e_M_goHours_4, e_M_goHours_7, e_M_goHours_8, e_M_goHours_9, e_M_goHours_12, e_M_goHours_13, e_M_goHours_14, e_M_goHours_17, e_M_goHours_20, e_M_goHours_23, e_M_goHours_26, e_M_goHours_29]
  rw [h2]
  rfl
end P38
