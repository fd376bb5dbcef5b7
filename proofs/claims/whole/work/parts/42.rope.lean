/-! pairs of calls: rope, blows, count, trace, taken -/
def fzI (I : Nat → Nat → Int32) (m : Nat) : Bool := decide (faG (rowT I 3 4 5) (bI I) (ldC (I 6) m) = 0)
section P42
variable {X : pm_X} {d : Nat} {P Q : pm_O → Prop} {g : List pm_S} {S : List pm_S} {I I' I1 B : Nat → Nat → Int32} {J J' : Nat → Nat → Int64} {j w : Nat} {c a b s n k v l : Int32} {fi : Int32} {p : Nat → Int32} {T U : Nat → T3}
theorem ldI_cg {f f' : Nat → Int32} (h : ∀ o, o < 16 → f o = f' o) (hj : j < 16) : ldI f j = ldI f' j := by
  unfold ldI
  rw [h j hj]
  congr 1
  exact sumR_congr 16 0 (fun i h1 h2 => by rw [h i (by omega)])
theorem faG_cg {f f' : Nat → Int32} {b : Int32} (h : ∀ o, o < 16 → f o = f' o) : faG T b f = faG T b f' := by
  unfold faG
  refine fld_congr _ _ _ (fun i s h1 h2 => ?_)
  rw [h i (by omega), ldI_cg h (by omega)]
theorem B_rope_fill {m : Nat} (hm : m < 5) {F : Nat → Int32} : ∀ (l2 : Option Value) (d : Nat) (Q : pm_O → Prop), pm_V X d 18 6 [some (.ref 0), some (.int (nI m)), l2] [] (pm_S0 ++ g, pm_up I 43 F, J) Q = pm_V X d 18 46 [some (.ref 0), some (.int (nI m)), some (.int (nI 16))] [] (pm_S0 ++ g, pm_up I 43 (fun i => if i < 16 then ldC (I 6) m i else F i), J) Q := by
  intro l2 d Q
  have L := pm_lp0 (fun k => pm_V X d 18 8 [some (.ref 0), some (.int (nI m)), some (.int (nI k))] [] (pm_S0 ++ g, pm_up I 43 (fun i => if i < k then ldC (I 6) m i else F i), J) Q) 16 (by
    intro k hk
    have h16 : ((16 : Int32) ≤ nI k) = False := by
      rw [show (16 : Int32) = nI 16 from rfl, nI_le_l (by omega) (by omega)]
      exact eq_false (by omega)
    have hb := bad_nI (k := k) (n := 16) hk (by decide)
    have hc := nI_clamp (n := k) (by omega)
    have hcol : (nI m ≤ nI k - nI k / 4 * 4) = ¬ k % 4 < m := propext (col_all m hm k hk)
    show pm_V X d 18 8 [some (.ref 0), some (.int (nI m)), some (.int (nI k))] [] (pm_S0 ++ g, pm_up I 43 (fun i => if i < k then ldC (I 6) m i else F i), J) Q = _
    have e : upd (fun i => if i < k then ldC (I 6) m i else F i) k (ldC (I 6) m k) = (fun i => if i < k + 1 then ldC (I 6) m i else F i) := by
      funext i
      rw [upd_app]
      by_cases q2 : i = k
      · subst q2; simp
      · have : (i < k + 1) = (i < k) := propext (by omega)
        simp [q2, this]
    rw [← e, e_B_rope_8]
    simp only [e_B_rope_0, e_B_rope_1, e_B_rope_2, e_B_rope_3, e_B_rope_6, e_B_rope_7, e_B_rope_9, e_B_rope_11, e_B_rope_14, e_B_rope_15, e_B_rope_18, e_B_rope_19, e_B_rope_20, e_B_rope_21, e_B_rope_22, e_B_rope_23, e_B_rope_26, e_B_rope_27, e_B_rope_30, e_B_rope_33, e_B_rope_34, e_B_rope_35, e_B_rope_38, e_B_rope_39, e_B_rope_40, e_B_rope_43, e_B_rope_47, e_B_rope_48, e_B_rope_51, e_B_rope_54, e_B_rope_57, e_B_rope_58, e_B_rope_59, e_B_rope_62, e_B_rope_65, e_B_rope_66, h16, q4z, hcol, sh_r_0_0, sh_r_0_12, sh_r_1_1, sh_i_6, sh_w_43, hb, hc, pu_ne (show ¬ 6 = 43 by decide), pw98, nI_1, pm_opt_some, pm_opt_none, pm_opt_if, Bool.false_eq_true, Bool.not_false, Bool.not_true, if_false, if_true, true_and, and_true, true_or, or_true, not_true_eq_false, not_false_eq_true, q10, q00, q01, q11, pk_v, pk_i, pk_l, pk_r]
    by_cases q : k % 4 < m
    · have : ldC (I 6) m k = I 6 k := by unfold ldC; rw [if_pos q]
      simp only [q, this, pm_opt_some, pm_opt_none, pm_opt_if, Bool.false_eq_true, Bool.not_false, Bool.not_true, if_false, if_true, true_and, and_true, true_or, or_true, not_true_eq_false, not_false_eq_true, q10, q00, q01, q11, pk_v, pk_i, pk_l, pk_r]
    · have : ldC (I 6) m k = 0 := by unfold ldC; rw [if_neg q]
      simp only [q, this, pm_opt_some, pm_opt_none, pm_opt_if, Bool.false_eq_true, Bool.not_false, Bool.not_true, if_false, if_true, true_and, and_true, true_or, or_true, not_true_eq_false, not_false_eq_true, q10, q00, q01, q11, pk_v, pk_i, pk_l, pk_r]) 16 0 (by omega)
  simp only [Nat.not_lt_zero, if_false, nI_0] at L
  have h16 : ((16 : Int32) ≤ nI 16) = True := by decide
  simp only [e_B_rope_6, e_B_rope_7]
  rw [L, e_B_rope_8]
  simp only [e_B_rope_9, e_B_rope_11, h16, if_true]
theorem B_rope_step {m : Nat} (hm : m + 1 < 5) {F : Nat → Int32} (hR : Rel I J) : ∀ (l2 : Option Value) (d : Nat) (Q : pm_O → Prop), pm_V X (d + 20) 18 2 [some (.ref 0), some (.int (nI (m + 1))), l2] [] (pm_S0 ++ g, pm_up I 43 F, J) Q = if fzI I (m + 1) = true then (Q (some (.int (nI (m + 1))), (pm_S0 ++ g, pm_up I 43 (fun i => if i < 16 then ldC (I 6) (m + 1) i else F i), J))) else (pm_V X (d + 20) 18 2 [some (.ref 0), some (.int (nI m)), some (.int (nI 16))] [] (pm_S0 ++ g, pm_up I 43 (fun i => if i < 16 then ldC (I 6) (m + 1) i else F i), J) Q) := by
  intro l2 d Q
  have hs : sfr I (pm_up I 43 (fun i => if i < 16 then ldC (I 6) (m + 1) i else F i)) := sfr_of (L := [43]) (by decide) (pm_fr_up (by decide))
  have hok := WX_ok (Rel_WX (Rel_s hs hR))
  have h0 : (nI (m + 1) ≤ 0) = False := eq_false (nI_nle (by omega) (by omega))
  have ef : faI (pm_up I 43 (fun i => if i < 16 then ldC (I 6) (m + 1) i else F i)) (pm_up I 43 (fun i => if i < 16 then ldC (I 6) (m + 1) i else F i) 43) = faG (rowT I 3 4 5) (bI I) (ldC (I 6) (m + 1)) := by
    show faG (rowT (pm_up I 43 (fun i => if i < 16 then ldC (I 6) (m + 1) i else F i)) 3 4 5) (bI (pm_up I 43 (fun i => if i < 16 then ldC (I 6) (m + 1) i else F i))) _ = _
    rw [sfr_row hs, sfr_bI hs, pu_eq]
    exact faG_cg (fun o ho => by rw [if_pos ho])
  have hp : nI (m + 1) + (-1) = nI m := pk_m1 m
  unfold fzI
  generalize faG (rowT I 3 4 5) (bI I) (ldC (I 6) (m + 1)) = z at ef ⊢
  rw [e_B_rope_2]
  simp only [e_B_rope_3, h0, if_false, B_rope_fill hm]
  simp only [e_B_rope_0, e_B_rope_1, e_B_rope_3, e_B_rope_7, e_B_rope_9, e_B_rope_11, e_B_rope_14, e_B_rope_15, e_B_rope_18, e_B_rope_19, e_B_rope_20, e_B_rope_21, e_B_rope_22, e_B_rope_23, e_B_rope_26, e_B_rope_27, e_B_rope_30, e_B_rope_33, e_B_rope_34, e_B_rope_35, e_B_rope_38, e_B_rope_39, e_B_rope_40, e_B_rope_43, e_B_rope_46, e_B_rope_47, e_B_rope_48, e_B_rope_51, e_B_rope_54, e_B_rope_57, e_B_rope_58, e_B_rope_59, e_B_rope_62, e_B_rope_65, e_B_rope_66, sh_o_0, sh_r_0_12, K_B_fallingOf (g := g) (a := 43) rfl hok, ef, hp, pm_opt_some, pm_opt_none, pm_opt_if, Bool.false_eq_true, Bool.not_false, Bool.not_true, if_false, if_true, true_and, and_true, true_or, or_true, not_true_eq_false, not_false_eq_true, q10, q00, q01, q11, pk_v, pk_i, pk_l, pk_r]
  by_cases q : z = 0
  · simp only [q, decide_true, pm_opt_some, pm_opt_none, pm_opt_if, Bool.false_eq_true, Bool.not_false, Bool.not_true, if_false, if_true, true_and, and_true, true_or, or_true, not_true_eq_false, not_false_eq_true, q10, q00, q01, q11, pk_v, pk_i, pk_l, pk_r]
  · simp only [q, decide_false, pm_opt_some, pm_opt_none, pm_opt_if, Bool.false_eq_true, Bool.not_false, Bool.not_true, if_false, if_true, true_and, and_true, true_or, or_true, not_true_eq_false, not_false_eq_true, q10, q00, q01, q11, pk_v, pk_i, pk_l, pk_r]
/-- ROPE -/
def roI (I : Nat → Nat → Int32) : Int32 := if fzI I 4 = true then 4 else if fzI I 3 = true then 3 else if fzI I 2 = true then 2 else if fzI I 1 = true then 1 else 0
theorem M_rope_step {m : Nat} {best : Int32} (hm : m < 5) (hs : sfr I B) (hR : Rel B J) : ∃ B', sfr I B' ∧ Rel B' J ∧ sfr B B' ∧ ∀ (d : Nat) (Q : pm_O → Prop), pm_V X (d + 20) 152 8 [some (.ref 82), some (.int best), some (.int (nI m))] [] (pm_S0 ++ g, MS B (rowT I 3 4 5) n p, J) Q = pm_V X (d + 20) 152 8 [some (.ref 82), some (.int (if fzI I m = true then nI m else best)), some (.int (nI (m + 1)))] [] (pm_S0 ++ g, MS B' (rowT I 3 4 5) n p, J) Q := by
  have hs1 : sfr B (pm_up B 102 (fun i => if i < 16 then ldI (ldC (B 6) m) i else B 102 i)) := sfr_102
  refine ⟨_, sfr_tr hs hs1, Rel_s hs1 hR, hs1, fun d Q => ?_⟩
  have h5 : ((5 : Int32) ≤ nI m) = False := by
    rw [show (5 : Int32) = nI 5 from rfl, nI_le_l (by omega) (by omega)]
    exact eq_false (by omega)
  have ef : faG (rowT I 3 4 5) (bI B) (ldC (B 6) m) = faG (rowT I 3 4 5) (bI I) (ldC (I 6) m) := by
    rw [sfr_bI hs, sfr_at hs (q := 6) (by decide)]
  have kf := fun (d : Nat) (P : pm_O → Prop) => K_M_falls (X := X) (d := d) (P := P) (g := g) (T := rowT I 3 4 5) (n := n) (p := p) hm hR
  rw [ef] at kf
  unfold fzI
  generalize faG (rowT I 3 4 5) (bI I) (ldC (I 6) m) = z at kf ⊢
  rw [e_M_rope_8]
  simp only [e_M_rope_0, e_M_rope_1, e_M_rope_4, e_M_rope_5, e_M_rope_6, e_M_rope_7, e_M_rope_9, e_M_rope_10, e_M_rope_13, e_M_rope_14, e_M_rope_15, e_M_rope_18, e_M_rope_21, e_M_rope_22, e_M_rope_25, e_M_rope_26, e_M_rope_27, e_M_rope_30, e_M_rope_33, e_M_rope_34, h5, sh_o_82, kf, nI_1, pm_opt_some, pm_opt_none, pm_opt_if, Bool.false_eq_true, Bool.not_false, Bool.not_true, if_false, if_true, true_and, and_true, true_or, or_true, not_true_eq_false, not_false_eq_true, q10, q00, q01, q11, pk_v, pk_i, pk_l, pk_r]
  by_cases q : z = 0
  · simp only [q, decide_true, pm_opt_some, pm_opt_none, pm_opt_if, Bool.false_eq_true, Bool.not_false, Bool.not_true, if_false, if_true, true_and, and_true, true_or, or_true, not_true_eq_false, not_false_eq_true, q10, q00, q01, q11, pk_v, pk_i, pk_l, pk_r]
  · simp only [q, decide_false, pm_opt_some, pm_opt_none, pm_opt_if, Bool.false_eq_true, Bool.not_false, Bool.not_true, if_false, if_true, true_and, and_true, true_or, or_true, not_true_eq_false, not_false_eq_true, q10, q00, q01, q11, pk_v, pk_i, pk_l, pk_r]
theorem Pair_rope (hR : Rel I J) : Pair X 18 152 [] g I J := by
  refine Pair_q (v := .int (roI I)) hR ?_ (fun I1 h1 hR1 => ?_)
  · have st := fun (m : Nat) (hm : m + 1 < 5) (F : Nat → Int32) => B_rope_step (X := X) (g := g) (J := J) hm (F := F) hR
    have s4 := st 3 (by decide)
    have s3 := st 2 (by decide)
    have s2 := st 1 (by decide)
    have s1 := st 0 (by decide)
    have fr : ∀ F, sfr I (pm_up I 43 F) := fun F => sfr_of (L := [43]) (by decide) (pm_fr_up (by decide))
    have beg : ∀ (d' : Nat) (Q : pm_O → Prop), pm_V X (d' + 49) 18 0 [some (.ref 0), none, none] [] (pm_S0 ++ g, I, J) Q = pm_V X (d' + 49) 18 2 [some (.ref 0), some (.int (nI 4)), none] [] (pm_S0 ++ g, pm_up I 43 (I 43), J) Q := by
      intro d' Q
      rw [pu_self]
      simp only [e_B_rope_0, e_B_rope_1, show nI 4 = 4 from rfl]
    by_cases q4 : fzI I 4 = true
    · have ev : roI I = nI 4 := by unfold roI; rw [if_pos q4]; rfl
      refine ⟨pm_up I 43 (fun i => if i < 16 then ldC (I 6) 4 i else I 43 i), fr _, K50 fun d' => ?_⟩
      show pm_V X (d' + 49) 18 0 [some (.ref 0), none, none] [] (pm_S0 ++ g, I, J) _
      rw [ev, beg, s4, if_pos q4]
    · by_cases q3 : fzI I 3 = true
      · have ev : roI I = nI 3 := by unfold roI; rw [if_neg q4, if_pos q3]; rfl
        refine ⟨pm_up I 43 (fun i => if i < 16 then ldC (I 6) 3 i else (fun i => if i < 16 then ldC (I 6) 4 i else I 43 i) i), fr _, K50 fun d' => ?_⟩
        show pm_V X (d' + 49) 18 0 [some (.ref 0), none, none] [] (pm_S0 ++ g, I, J) _
        rw [ev, beg, s4, if_neg q4, s3, if_pos q3]
      · by_cases q2 : fzI I 2 = true
        · have ev : roI I = nI 2 := by unfold roI; rw [if_neg q4, if_neg q3, if_pos q2]; rfl
          refine ⟨pm_up I 43 (fun i => if i < 16 then ldC (I 6) 2 i else (fun i => if i < 16 then ldC (I 6) 3 i else (fun i => if i < 16 then ldC (I 6) 4 i else I 43 i) i) i), fr _, K50 fun d' => ?_⟩
          show pm_V X (d' + 49) 18 0 [some (.ref 0), none, none] [] (pm_S0 ++ g, I, J) _
          rw [ev, beg, s4, if_neg q4, s3, if_neg q3, s2, if_pos q2]
        · by_cases q1 : fzI I 1 = true
          · have ev : roI I = nI 1 := by unfold roI; rw [if_neg q4, if_neg q3, if_neg q2, if_pos q1]; rfl
            refine ⟨pm_up I 43 (fun i => if i < 16 then ldC (I 6) 1 i else (fun i => if i < 16 then ldC (I 6) 2 i else (fun i => if i < 16 then ldC (I 6) 3 i else (fun i => if i < 16 then ldC (I 6) 4 i else I 43 i) i) i) i), fr _, K50 fun d' => ?_⟩
            show pm_V X (d' + 49) 18 0 [some (.ref 0), none, none] [] (pm_S0 ++ g, I, J) _
            rw [ev, beg, s4, if_neg q4, s3, if_neg q3, s2, if_neg q2, s1, if_pos q1]
          · have ev : roI I = 0 := by unfold roI; rw [if_neg q4, if_neg q3, if_neg q2, if_neg q1]
            have h0 : (nI 0 ≤ 0) = True := by decide
            refine ⟨pm_up I 43 (fun i => if i < 16 then ldC (I 6) 1 i else (fun i => if i < 16 then ldC (I 6) 2 i else (fun i => if i < 16 then ldC (I 6) 3 i else (fun i => if i < 16 then ldC (I 6) 4 i else I 43 i) i) i) i), fr _, K50 fun d' => ?_⟩
            show pm_V X (d' + 49) 18 0 [some (.ref 0), none, none] [] (pm_S0 ++ g, I, J) _
            rw [ev, beg, s4, if_neg q4, s3, if_neg q3, s2, if_neg q2, s1, if_neg q1]
            simp only [e_B_rope_2, e_B_rope_3, e_B_rope_65, e_B_rope_66, h0, if_true]
  · have hs0 : sfr I (nL I1) := sfr_tr h1 nL_sfr
    obtain ⟨B1, a1, b1, c1, t1⟩ := M_rope_step (X := X) (g := g) (n := nI (hN I)) (p := I1 98) (best := 0) (m := 1) (by decide) hs0 (Rel_s nL_sfr hR1)
    obtain ⟨B2, a2, b2, c2, t2⟩ := M_rope_step (X := X) (g := g) (n := nI (hN I)) (p := I1 98) (best := if fzI I 1 = true then nI 1 else 0) (m := 2) (by decide) a1 b1
    obtain ⟨B3, a3, b3, c3, t3⟩ := M_rope_step (X := X) (g := g) (n := nI (hN I)) (p := I1 98) (best := if fzI I 2 = true then nI 2 else if fzI I 1 = true then nI 1 else 0) (m := 3) (by decide) a2 b2
    obtain ⟨B4, a4, b4, c4, t4⟩ := M_rope_step (X := X) (g := g) (n := nI (hN I)) (p := I1 98) (best := if fzI I 3 = true then nI 3 else if fzI I 2 = true then nI 2 else if fzI I 1 = true then nI 1 else 0) (m := 4) (by decide) a3 b3
    refine ⟨MS B4 (rowT I 3 4 5) (nI (hN I)) (I1 98), sfr_tr (sfr_tr nL_sfr (sfr_tr (sfr_tr c1 c2) (sfr_tr c3 c4))) MS_sfr, K50 fun d' => ?_⟩
    show pm_V X (d' + 49) 152 0 [some (.ref 82), none, none] [] (pm_S0 ++ g, I1, J) _
    have h5 : ((5 : Int32) ≤ nI 5) = True := by decide
    simp only [e_M_rope_0, e_M_rope_1, e_M_rope_4, e_M_rope_5, e_M_rope_6, e_M_rope_7, e_M_rope_9, e_M_rope_10, e_M_rope_13, e_M_rope_14, e_M_rope_15, e_M_rope_18, e_M_rope_21, e_M_rope_22, e_M_rope_25, e_M_rope_26, e_M_rope_27, e_M_rope_30, e_M_rope_33, e_M_rope_34, sh_o_82, M_asIs hR1 h1, pm_opt_some, pm_opt_none, pm_opt_if, Bool.false_eq_true, Bool.not_false, Bool.not_true, if_false, if_true, true_and, and_true, true_or, or_true, not_true_eq_false, not_false_eq_true, q10, q00, q01, q11, pk_v, pk_i, pk_l, pk_r]
    show pm_V X (d' + 29 + 20) 152 8 [some (.ref 82), some (.int 0), some (.int (nI 1))] [] (pm_S0 ++ g, MS (nL I1) (rowT I 3 4 5) (nI (hN I)) (I1 98), J) _
    rw [t1 (d' + 29), t2 (d' + 29), t3 (d' + 29), t4 (d' + 29)]
    simp only [e_M_rope_0, e_M_rope_1, e_M_rope_4, e_M_rope_5, e_M_rope_6, e_M_rope_7, e_M_rope_8, e_M_rope_9, e_M_rope_10, e_M_rope_13, e_M_rope_14, e_M_rope_15, e_M_rope_18, e_M_rope_21, e_M_rope_22, e_M_rope_25, e_M_rope_26, e_M_rope_27, e_M_rope_30, e_M_rope_33, e_M_rope_34, h5, pm_opt_some, pm_opt_none, pm_opt_if, Bool.false_eq_true, Bool.not_false, Bool.not_true, if_false, if_true, true_and, and_true, true_or, or_true, not_true_eq_false, not_false_eq_true, q10, q00, q01, q11, pk_v, pk_i, pk_l, pk_r]
    rfl
/-- BLOWS -/
def blI (I : Nat → Nat → Int32) (n : Int32) : Int32 := fld (fun k s => if (thT (rowT I 3 4 5 k) + 14) / 15 = n then s ||| 1 <<< (nI k &&& 31) else s) 0 16 0
theorem q15z : ((15 : Int32) = 0) = False := by decide
theorem p151 (x : Int32) : x + 15 - 1 = x + 14 := by
  rw [Int32.sub_eq_add_neg, Int32.add_assoc]
  rfl
theorem Pair_blows (hR : Rel I J) : Pair X 22 166 [.int n] g I J := by
  by_cases hn : 0 ≤ n ∧ n ≤ 99
  · have h16 : ((16 : Int32) ≤ nI 16) = True := by decide
    refine Pair_q (v := .int (blI I n)) hR ⟨I, sfr_rf, K50 fun d' => ?_⟩ (fun I1 h1 hR1 => ⟨I1, sfr_rf, K50 fun d' => ?_⟩)
    · have L := fun (Q : pm_O → Prop) => pm_lp (fun k s => pm_V X (d' + 49) 22 17 [some (.ref 0), some (.int n), some (.int s), some (.int (nI k))] [] (pm_S0 ++ g, I, J) Q) (fun k s => if (thT (rowT I 3 4 5 k) + 14) / 15 = n then s ||| 1 <<< (nI k &&& 31) else s) 16 (by
        intro k s hk
        have h1 : ((16 : Int32) ≤ nI k) = False := by
          rw [show (16 : Int32) = nI 16 from rfl, nI_le_l (by omega) (by omega)]
          exact eq_false (by omega)
        have kt := fun (d : Nat) (P : pm_O → Prop) => K_I_thick (X := X) (d := d) (P := P) (S := pm_S0 ++ g) (I := I) (J := J) ice_now hk
        rw [show I 3 k + I 4 k / 2 = thT (rowT I 3 4 5 k) from rfl] at kt
        generalize hz : (thT (rowT I 3 4 5 k) + 14) / 15 = z
        show pm_V X (d' + 49) 22 17 [some (.ref 0), some (.int n), some (.int s), some (.int (nI k))] [] (pm_S0 ++ g, I, J) Q = _
        rw [e_B_blows_17]
        simp only [e_B_blows_0, e_B_blows_1, e_B_blows_2, e_B_blows_4, e_B_blows_7, e_B_blows_10, e_B_blows_12, e_B_blows_13, e_B_blows_14, e_B_blows_15, e_B_blows_16, e_B_blows_18, e_B_blows_20, e_B_blows_23, e_B_blows_24, e_B_blows_27, e_B_blows_30, e_B_blows_31, e_B_blows_34, e_B_blows_36, e_B_blows_37, e_B_blows_38, e_B_blows_39, e_B_blows_41, e_B_blows_42, e_B_blows_43, e_B_blows_46, e_B_blows_47, e_B_blows_48, e_B_blows_49, e_B_blows_50, e_B_blows_51, e_B_blows_52, e_B_blows_55, e_B_blows_58, e_B_blows_59, h1, sh_o_2, sh_r_0_0, sh_r_1_0, kt, q15z, p151, hz, nI_1, pm_opt_some, pm_opt_none, pm_opt_if, Bool.false_eq_true, Bool.not_false, Bool.not_true, if_false, if_true, true_and, and_true, true_or, or_true, not_true_eq_false, not_false_eq_true, q10, q00, q01, q11, pk_v, pk_i, pk_l, pk_r]
        by_cases q : z = n
        · simp only [q, pm_opt_some, pm_opt_none, pm_opt_if, Bool.false_eq_true, Bool.not_false, Bool.not_true, if_false, if_true, true_and, and_true, true_or, or_true, not_true_eq_false, not_false_eq_true, q10, q00, q01, q11, pk_v, pk_i, pk_l, pk_r]
        · simp only [q, pm_opt_some, pm_opt_none, pm_opt_if, Bool.false_eq_true, Bool.not_false, Bool.not_true, if_false, if_true, true_and, and_true, true_or, or_true, not_true_eq_false, not_false_eq_true, q10, q00, q01, q11, pk_v, pk_i, pk_l, pk_r]) 16 0 0 (by omega)
      rw [nI_0] at L
      show pm_V X (d' + 49) 22 0 [some (.ref 0), some (.int n), none, none] [] (pm_S0 ++ g, I, J) _
      simp only [e_B_blows_0, e_B_blows_1, e_B_blows_2, e_B_blows_4, e_B_blows_7, e_B_blows_10, e_B_blows_12, e_B_blows_13, e_B_blows_14, e_B_blows_15, e_B_blows_16, e_B_blows_18, e_B_blows_20, e_B_blows_23, e_B_blows_24, e_B_blows_27, e_B_blows_30, e_B_blows_31, e_B_blows_34, e_B_blows_36, e_B_blows_37, e_B_blows_38, e_B_blows_39, e_B_blows_41, e_B_blows_42, e_B_blows_43, e_B_blows_46, e_B_blows_47, e_B_blows_48, e_B_blows_49, e_B_blows_50, e_B_blows_51, e_B_blows_52, e_B_blows_55, e_B_blows_58, e_B_blows_59, K_B_isWithin, eq_true hn, pm_opt_some, pm_opt_none, pm_opt_if, Bool.false_eq_true, Bool.not_false, Bool.not_true, if_false, if_true, true_and, and_true, true_or, or_true, not_true_eq_false, not_false_eq_true, q10, q00, q01, q11, pk_v, pk_i, pk_l, pk_r]
      rw [L, e_B_blows_17]
      simp only [e_B_blows_0, e_B_blows_1, e_B_blows_2, e_B_blows_4, e_B_blows_7, e_B_blows_10, e_B_blows_12, e_B_blows_13, e_B_blows_14, e_B_blows_15, e_B_blows_16, e_B_blows_18, e_B_blows_20, e_B_blows_23, e_B_blows_24, e_B_blows_27, e_B_blows_30, e_B_blows_31, e_B_blows_34, e_B_blows_36, e_B_blows_37, e_B_blows_38, e_B_blows_39, e_B_blows_41, e_B_blows_42, e_B_blows_43, e_B_blows_46, e_B_blows_47, e_B_blows_48, e_B_blows_49, e_B_blows_50, e_B_blows_51, e_B_blows_52, e_B_blows_55, e_B_blows_58, e_B_blows_59, h16, pm_opt_some, pm_opt_none, pm_opt_if, Bool.false_eq_true, Bool.not_false, Bool.not_true, if_false, if_true, true_and, and_true, true_or, or_true, not_true_eq_false, not_false_eq_true, q10, q00, q01, q11, pk_v, pk_i, pk_l, pk_r]
      rfl
    · have e3 : I1 83 = I 3 := hR1.1.1.1.trans (sfr_at h1 (by decide))
      have e4 : I1 84 = I 4 := hR1.1.1.2.1.trans (sfr_at h1 (by decide))
      have L := fun (Q : pm_O → Prop) => pm_lp (fun k s => pm_V X (d' + 49) 166 18 [some (.ref 82), some (.int n), some (.int s), some (.int (nI k))] [] (pm_S0 ++ g, I1, J) Q) (fun k s => if (thT (rowT I 3 4 5 k) + 14) / 15 = n then s ||| 1 <<< (nI k &&& 31) else s) 16 (by
        intro k s hk
        have h1 : ((16 : Int32) ≤ nI k) = False := by
          rw [show (16 : Int32) = nI 16 from rfl, nI_le_l (by omega) (by omega)]
          exact eq_false (by omega)
        have kt := fun (d : Nat) (P : pm_O → Prop) => K_M_thickOf (X := X) (d := d) (P := P) (g := g) (I := I1) (J := J) hk
        rw [e3, e4, show I 3 k + I 4 k / 2 = thT (rowT I 3 4 5 k) from rfl] at kt
        generalize hz : (thT (rowT I 3 4 5 k) + 14) / 15 = z
        show pm_V X (d' + 49) 166 18 [some (.ref 82), some (.int n), some (.int s), some (.int (nI k))] [] (pm_S0 ++ g, I1, J) Q = _
        rw [e_M_blows_18]
        simp only [e_M_blows_0, e_M_blows_1, e_M_blows_2, e_M_blows_3, e_M_blows_5, e_M_blows_8, e_M_blows_11, e_M_blows_13, e_M_blows_14, e_M_blows_15, e_M_blows_16, e_M_blows_17, e_M_blows_19, e_M_blows_21, e_M_blows_24, e_M_blows_25, e_M_blows_26, e_M_blows_27, e_M_blows_30, e_M_blows_32, e_M_blows_33, e_M_blows_35, e_M_blows_36, e_M_blows_37, e_M_blows_40, e_M_blows_41, e_M_blows_42, e_M_blows_43, e_M_blows_46, e_M_blows_47, e_M_blows_48, e_M_blows_49, e_M_blows_52, e_M_blows_55, e_M_blows_56, h1, sh_o_82, kt, q15z, hz, nI_1, pm_opt_some, pm_opt_none, pm_opt_if, Bool.false_eq_true, Bool.not_false, Bool.not_true, if_false, if_true, true_and, and_true, true_or, or_true, not_true_eq_false, not_false_eq_true, q10, q00, q01, q11, pk_v, pk_i, pk_l, pk_r]
        by_cases q : z = n
        · simp only [q, pm_opt_some, pm_opt_none, pm_opt_if, Bool.false_eq_true, Bool.not_false, Bool.not_true, if_false, if_true, true_and, and_true, true_or, or_true, not_true_eq_false, not_false_eq_true, q10, q00, q01, q11, pk_v, pk_i, pk_l, pk_r]
        · simp only [q, Int32.or_zero, pm_opt_some, pm_opt_none, pm_opt_if, Bool.false_eq_true, Bool.not_false, Bool.not_true, if_false, if_true, true_and, and_true, true_or, or_true, not_true_eq_false, not_false_eq_true, q10, q00, q01, q11, pk_v, pk_i, pk_l, pk_r]) 16 0 0 (by omega)
      rw [nI_0] at L
      show pm_V X (d' + 49) 166 0 [some (.ref 82), some (.int n), none, none] [] (pm_S0 ++ g, I1, J) _
      simp only [e_M_blows_0, e_M_blows_1, e_M_blows_2, e_M_blows_3, e_M_blows_5, e_M_blows_8, e_M_blows_11, e_M_blows_13, e_M_blows_14, e_M_blows_15, e_M_blows_16, e_M_blows_17, e_M_blows_19, e_M_blows_21, e_M_blows_24, e_M_blows_25, e_M_blows_26, e_M_blows_27, e_M_blows_30, e_M_blows_32, e_M_blows_33, e_M_blows_35, e_M_blows_36, e_M_blows_37, e_M_blows_40, e_M_blows_41, e_M_blows_42, e_M_blows_43, e_M_blows_46, e_M_blows_47, e_M_blows_48, e_M_blows_49, e_M_blows_52, e_M_blows_55, e_M_blows_56, sh_o_82, K_M_in, eq_true hn, pm_opt_some, pm_opt_none, pm_opt_if, Bool.false_eq_true, Bool.not_false, Bool.not_true, if_false, if_true, true_and, and_true, true_or, or_true, not_true_eq_false, not_false_eq_true, q10, q00, q01, q11, pk_v, pk_i, pk_l, pk_r]
      rw [L, e_M_blows_18]
      simp only [e_M_blows_0, e_M_blows_1, e_M_blows_2, e_M_blows_3, e_M_blows_5, e_M_blows_8, e_M_blows_11, e_M_blows_13, e_M_blows_14, e_M_blows_15, e_M_blows_16, e_M_blows_17, e_M_blows_19, e_M_blows_21, e_M_blows_24, e_M_blows_25, e_M_blows_26, e_M_blows_27, e_M_blows_30, e_M_blows_32, e_M_blows_33, e_M_blows_35, e_M_blows_36, e_M_blows_37, e_M_blows_40, e_M_blows_41, e_M_blows_42, e_M_blows_43, e_M_blows_46, e_M_blows_47, e_M_blows_48, e_M_blows_49, e_M_blows_52, e_M_blows_55, e_M_blows_56, h16, pm_opt_some, pm_opt_none, pm_opt_if, Bool.false_eq_true, Bool.not_false, Bool.not_true, if_false, if_true, true_and, and_true, true_or, or_true, not_true_eq_false, not_false_eq_true, q10, q00, q01, q11, pk_v, pk_i, pk_l, pk_r]
      rfl
  · exact Pair_q (v := .int (-2)) hR ⟨I, sfr_rf, K50 fun d' => by { show pm_V X (d' + 49) 22 0 [some (.ref 0), some (.int n), none, none] [] (pm_S0 ++ g, I, J) _; simp only [e_B_blows_0, e_B_blows_1, e_B_blows_2, e_B_blows_4, e_B_blows_7, e_B_blows_10, e_B_blows_12, e_B_blows_13, e_B_blows_14, e_B_blows_15, e_B_blows_16, e_B_blows_17, e_B_blows_18, e_B_blows_20, e_B_blows_23, e_B_blows_24, e_B_blows_27, e_B_blows_30, e_B_blows_31, e_B_blows_34, e_B_blows_36, e_B_blows_37, e_B_blows_38, e_B_blows_39, e_B_blows_41, e_B_blows_42, e_B_blows_43, e_B_blows_46, e_B_blows_47, e_B_blows_48, e_B_blows_49, e_B_blows_50, e_B_blows_51, e_B_blows_52, e_B_blows_55, e_B_blows_58, e_B_blows_59, K_B_isCell, K_B_isWithin, K_B_isTape, K_B_isKind, eq_false hn, pm_opt_some, pm_opt_none, pm_opt_if, Bool.false_eq_true, Bool.not_false, Bool.not_true, if_false, if_true, true_and, and_true, true_or, or_true, not_true_eq_false, not_false_eq_true, q10, q00, q01, q11, pk_v, pk_i, pk_l, pk_r] }⟩ (fun I1 h1 hR1 => ⟨I1, sfr_rf, K50 fun d' => by { show pm_V X (d' + 49) 166 0 [some (.ref 82), some (.int n), none, none] [] (pm_S0 ++ g, I1, J) _; simp only [e_M_blows_0, e_M_blows_1, e_M_blows_2, e_M_blows_3, e_M_blows_5, e_M_blows_8, e_M_blows_11, e_M_blows_13, e_M_blows_14, e_M_blows_15, e_M_blows_16, e_M_blows_17, e_M_blows_18, e_M_blows_19, e_M_blows_21, e_M_blows_24, e_M_blows_25, e_M_blows_26, e_M_blows_27, e_M_blows_30, e_M_blows_32, e_M_blows_33, e_M_blows_35, e_M_blows_36, e_M_blows_37, e_M_blows_40, e_M_blows_41, e_M_blows_42, e_M_blows_43, e_M_blows_46, e_M_blows_47, e_M_blows_48, e_M_blows_49, e_M_blows_52, e_M_blows_55, e_M_blows_56, sh_o_82, K_M_isCell, K_M_in, K_M_isTape, eq_false hn, pm_opt_some, pm_opt_none, pm_opt_if, Bool.false_eq_true, Bool.not_false, Bool.not_true, if_false, if_true, true_and, and_true, true_or, or_true, not_true_eq_false, not_false_eq_true, q10, q00, q01, q11, pk_v, pk_i, pk_l, pk_r] }⟩)
/-- COUNT -/
def kiI (I : Nat → Nat → Int32) : Int32 := fld (fun k s => s + I 6 k) 0 16 0
theorem K_B_childrenInAll : pm_cl X (d + 1) 49 [.ref 0] (pm_S0 ++ g, I, J) P = P (some (.int (kiI I)), (pm_S0 ++ g, I, J)) := by
  have h16 : ((16 : Int32) ≤ nI 16) = True := by decide
  refine K_of (k := 0) (fun d' => ?_)
  have L := fun (Q : pm_O → Prop) => pm_lp (fun k s => pm_V X d' 49 4 [some (.ref 0), some (.int s), some (.int (nI k))] [] (pm_S0 ++ g, I, J) Q) (fun k s => s + I 6 k) 16 (by
    intro k s hk
    have h1 : ((16 : Int32) ≤ nI k) = False := by
      rw [show (16 : Int32) = nI 16 from rfl, nI_le_l (by omega) (by omega)]
      exact eq_false (by omega)
    have hb := bad_nI (k := k) (n := 16) hk (by decide)
    have hc := nI_clamp (n := k) (by omega)
    show pm_V X d' 49 4 [some (.ref 0), some (.int s), some (.int (nI k))] [] (pm_S0 ++ g, I, J) Q = _
    rw [e_B_childrenInAll_4]
    simp only [e_B_childrenInAll_0, e_B_childrenInAll_1, e_B_childrenInAll_2, e_B_childrenInAll_3, e_B_childrenInAll_5, e_B_childrenInAll_7, e_B_childrenInAll_10, e_B_childrenInAll_11, e_B_childrenInAll_12, e_B_childrenInAll_15, e_B_childrenInAll_18, e_B_childrenInAll_19, e_B_childrenInAll_20, e_B_childrenInAll_21, e_B_childrenInAll_22, e_B_childrenInAll_25, e_B_childrenInAll_28, e_B_childrenInAll_29, h1, sh_r_0_0, sh_r_1_1, sh_i_6, hb, hc, nI_1, pm_opt_some, pm_opt_none, pm_opt_if, Bool.false_eq_true, Bool.not_false, Bool.not_true, if_false, if_true, true_and, and_true, true_or, or_true, not_true_eq_false, not_false_eq_true, q10, q00, q01, q11, pk_v, pk_i, pk_l, pk_r]) 16 0 0 (by omega)
  rw [nI_0] at L
  show pm_V X d' 49 0 [some (.ref 0), none, none] [] (pm_S0 ++ g, I, J) _
  simp only [e_B_childrenInAll_0, e_B_childrenInAll_1, e_B_childrenInAll_2, e_B_childrenInAll_3, e_B_childrenInAll_5, e_B_childrenInAll_7, e_B_childrenInAll_10, e_B_childrenInAll_11, e_B_childrenInAll_12, e_B_childrenInAll_15, e_B_childrenInAll_18, e_B_childrenInAll_19, e_B_childrenInAll_20, e_B_childrenInAll_21, e_B_childrenInAll_22, e_B_childrenInAll_25, e_B_childrenInAll_28, e_B_childrenInAll_29]
  rw [L, e_B_childrenInAll_4]
  simp only [e_B_childrenInAll_0, e_B_childrenInAll_1, e_B_childrenInAll_2, e_B_childrenInAll_3, e_B_childrenInAll_5, e_B_childrenInAll_7, e_B_childrenInAll_10, e_B_childrenInAll_11, e_B_childrenInAll_12, e_B_childrenInAll_15, e_B_childrenInAll_18, e_B_childrenInAll_19, e_B_childrenInAll_20, e_B_childrenInAll_21, e_B_childrenInAll_22, e_B_childrenInAll_25, e_B_childrenInAll_28, e_B_childrenInAll_29, h16, pm_opt_some, pm_opt_none, pm_opt_if, Bool.false_eq_true, Bool.not_false, Bool.not_true, if_false, if_true, true_and, and_true, true_or, or_true, not_true_eq_false, not_false_eq_true, q10, q00, q01, q11, pk_v, pk_i, pk_l, pk_r]
  rfl
end P42
