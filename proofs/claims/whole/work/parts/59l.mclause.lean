/-! the parser: the reference's clauses -/
section P81
variable {X : pm_X} {d : Nat} {P Q : pm_O → Prop} {g : List pm_S} {I I' : Nat → Nat → Int32} {J : Nat → Nat → Int64} {a i n p sg s m v cc B k wt op : Nat} {b c x y dg : Int32} {t : List Nat} {A S T : Nat → Int32}
theorem RM_w {q : Nat} (hq : ¬ 82 = q) (h : RM I n) : RM (pm_w I q k x) n := ⟨by rw [pw_ne hq]; exact h.1, h.2⟩
theorem K_M_takesE (h : RM I n) (hcc : cc < 50) (hB : B ≤ 400) (hp : p ≤ n) (hs : sg ≤ B + p) : ∃ (dg' : Int32) (sg' wt' op' : Nat) (A' S' T' : Nat → Int32), (∀ i, i < sg → S' i = S i) ∧ (∀ i, ¬ i = cc → T' i = T i) ∧ ((cond (I 90) n p).1 = true → sg' = sg + (cond (I 90) n p).2.2.length ∧ S' = apL S sg (encl (cond (I 90) n p).2.2) ∧ T' cc = nI sg') ∧ ∀ (d : Nat) (P : pm_O → Prop), pm_cl X (d + 7) 127 [.ref 82, .int (nI cc)] (pm_S0 ++ g, MHp I p dg sg wt op A S T, J) P = P (some (.int (b2i (cond (I 90) n p).1)), (pm_S0 ++ g, MHp (pm_w I 94 cc (nI sg)) (cond (I 90) n p).2.1 dg' sg' wt' op' A' S' T', J)) := by
  have hn := h.2
  have e90 : pm_w I 94 cc (nI sg) 90 = I 90 := pw_ne (by decide)
  have h' : RM (pm_w I 94 cc (nI sg)) n := RM_w (by decide) h
  have R := (M_sim (X := X) (g := g) (J := J) h' hcc hB (muP n 3 p) 3 0 p 0 0 dg sg A S T (by decide) (Nat.le_refl _) (by omega) hp (by omega) (by omega)).2.2.1 rfl rfl (fun b hb => by omega)
  have ex := pP_ex (T := I 90) (n := n) (muP n 3 p) 3 0 p (by decide)
  have le := pP_le (T := I 90) (n := n) (muP n 3 p) 3 0 p (by decide) hp
  rw [e90] at R
  unfold cond
  generalize pP (I 90) n (muP n 3 p) 3 0 p = r at R ex le ⊢
  obtain ⟨le1, le2, le3⟩ := le
  have hb := bad_nI (k := cc) (n := 50) hcc (by decide)
  have hc := nI_clamp (n := cc) (by omega)
  have w23 : pm_w (MHp I p dg sg wt op A S T) 82 23 0 = MHp I p dg sg 0 op A S T := MH_w23 (k := 0)
  have w24 : pm_w (MHp I p dg sg 0 op A S T) 82 24 0 = MHp I p dg sg 0 0 A S T := MH_w24 (k := 0)
  have w94 : pm_w (MHp I p dg sg 0 0 A S T) 94 cc (nI sg) = MHp (pm_w I 94 cc (nI sg)) p dg sg 0 0 A S T := MH_wq (by decide) (by decide) (by decide) (by decide)
  have st : ∀ (d : Nat) (Q : pm_O → Prop), pm_V X (d + 6) 127 0 [some (.ref 82), some (.int (nI cc)), none, none] [] (pm_S0 ++ g, MHp I p dg sg wt op A S T, J) Q = STe X J g (pm_w I 94 cc (nI sg)) n cc d 1 p dg sg 0 0 A S T Q := by
    intro d Q
    have kn := fun (d : Nat) (P : pm_O → Prop) => K_M_next (X := X) (d := d) (P := P) (g := g) (J := J) (dg := dg) (sg := sg) (wt := 0) (op := 0) (A := A) (S := S) (T := T) h' hp
    unfold STe
    simp only [e_M_takesE_0, e_M_takesE_1, e_M_takesE_2, e_M_takesE_5, e_M_takesE_6, e_M_takesE_7, e_M_takesE_10, e_M_takesE_11, e_M_takesE_14, e_M_takesE_15, e_M_takesE_16, e_M_takesE_19, e_M_takesE_20, e_M_takesE_21, e_M_takesE_22, e_M_takesE_23, e_M_takesE_26, sh_o_82, sh_r_82_18, sh_w_94, w23, w24, MH_22, hb, hc, w94, kn, pm_opt_some, pm_opt_none, pm_opt_if, Bool.false_eq_true, Bool.not_false, Bool.not_true, if_false, if_true, true_and, and_true, true_or, or_true, not_true_eq_false, not_false_eq_true, q10, q00, q01, q11, pk_v, pk_i, pk_l, pk_r]
  cases er : r.1 with
  | true =>
    obtain ⟨dg1, A1, T1, k1, E1, a1, a2, a3, a4, a5⟩ := R.1 er
    have le4 := le3 er
    rw [List.nil_append, List.append_nil] at a4
    have el := congrArg List.length a4
    rw [encl_len, List.length_append, emS_len] at el
    have en := fun (d : Nat) (Q : pm_O → Prop) => M_end (X := X) (d := d) (Q := Q) (g := g) (I := pm_w I 94 cc (nI sg)) (J := J) (p := r.2.1) (n := n) (dg := dg1) (sg := sg + E1.length) (k := 0) (S := apL S sg E1) (T := T1) hcc (by rw [e90]; exact (ex er).2.2.1 rfl) (by rw [e90]; exact (ex er).2.2.2 (Or.inr rfl)) a3 (by omega) (by omega)
    refine ⟨dg1, sg + E1.length + k1, 0, 0, A1, apL (apL S sg E1) (sg + E1.length) (emS A1 0 k1), upd T1 cc (nI (sg + E1.length + k1)), fun i hi => ?_, fun i hi => by rw [upd_app, if_neg hi]; exact a2 i hi, fun _ => ⟨by omega, ?_, by rw [upd_app, if_pos rfl]⟩, fun d P => propext (pm_cl_of (k := 6) (by omega) (fun d' => ?_) P)⟩
    · rw [apL_lt _ _ _ _ (by omega), apL_lt _ _ _ _ hi]
    · rw [a4, apL_app]
    · show pm_V X (d' + 6) 127 0 [some (.ref 82), some (.int (nI cc)), none, none] [] (pm_S0 ++ g, MHp I p dg sg wt op A S T, J) _
      rw [st, a5, en, b2_t]
  | false =>
    obtain ⟨dg', sg', wt', op', A', S', T', f1, f2, f3⟩ := R.2 er
    refine ⟨dg', sg', wt', op', A', S', T', f1, f2, fun z => (by cases z), fun d P => propext (pm_cl_of (k := 6) (by omega) (fun d' => ?_) P)⟩
    show pm_V X (d' + 6) 127 0 [some (.ref 82), some (.int (nI cc)), none, none] [] (pm_S0 ++ g, MHp I p dg sg wt op A S T, J) _
    rw [st, f3, b2_f]
theorem wd_128 : ∀ s, s < 4 → ∀ x ∈ wdT s, x < 128 := by decide
theorem wd_20 : ∀ s, s < 4 → (wdT s).length ≤ 20 := by decide
def wdC (s : Nat) : Int32 := if s = 0 then 6897268 else if s = 1 then 663607 else if s = 2 then 637431 else 2262611
theorem wd_c : ∀ s, s < 4 → ∀ i, i < (wdT s).length → 96 + ((wdC s >>> ((5 * nI ((wdT s).length - 1 - i)) &&& 31)) &&& 31) = nI ((wdT s).getD i 0) := by decide +kernel
theorem K_M_takesHead (h : RM I n) (hcc : cc < 50) (hp : p ≤ n) : pm_cl X (d + 4) 128 [.ref 82, .int (nI cc)] (pm_S0 ++ g, MHp I p dg sg wt op A S T, J) P = if (tkS (I 90) n (wdT (srT (nxT (I 90) n p))) p).1 = true ∧ nxT (I 90) n (tkS (I 90) n (wdT (srT (nxT (I 90) n p))) p).2 = 32 then P (some (.int 1), (pm_S0 ++ g, MHp (pm_w I 92 cc (nI (srT (nxT (I 90) n p)))) ((tkS (I 90) n (wdT (srT (nxT (I 90) n p))) p).2 + 1) dg sg wt op A S T, J)) else P (some (.int 0), (pm_S0 ++ g, MHp (pm_w I 92 cc (nI (srT (nxT (I 90) n p)))) (tkS (I 90) n (wdT (srT (nxT (I 90) n p))) p).2 dg sg wt op A S T, J)) := by
  have hb := bad_nI (k := cc) (n := 50) hcc (by decide)
  have hc := nI_clamp (n := cc) (by omega)
  have kn := fun (d : Nat) (P : pm_O → Prop) => K_M_next (X := X) (d := d) (P := P) (g := g) (J := J) (dg := dg) (sg := sg) (wt := wt) (op := op) (A := A) (S := S) (T := T) h hp
  have kw : ∀ (s : Nat), s < 4 → ∀ (d : Nat) (P : pm_O → Prop), pm_cl X (d + 3) 120 [.ref 82, .int (wdC s), .int (nI (wdT s).length)] (pm_S0 ++ g, MHp (pm_w I 92 cc (nI s)) p dg sg wt op A S T, J) P = if (tkS (I 90) n (wdT s) p).1 = true ∧ nxT (I 90) n (tkS (I 90) n (wdT s) p).2 = 32 then P (some (.int 1), (pm_S0 ++ g, MHp (pm_w I 92 cc (nI s)) ((tkS (I 90) n (wdT s) p).2 + 1) dg sg wt op A S T, J)) else P (some (.int 0), (pm_S0 ++ g, MHp (pm_w I 92 cc (nI s)) (tkS (I 90) n (wdT s) p).2 dg sg wt op A S T, J)) := by
    intro s hs d P
    have e90 : pm_w I 92 cc (nI s) 90 = I 90 := pw_ne (by decide)
    have := K_M_takesWord (X := X) (d := d) (P := P) (g := g) (J := J) (dg := dg) (sg := sg) (wt := wt) (op := op) (A := A) (S := S) (T := T) (RM_w (q := 92) (k := cc) (x := nI s) (by decide) h) (wd_c s hs) (wd_20 s hs) (wd_128 s hs) hp rfl
    rw [e90] at this
    exact this
  have w92 : ∀ x, pm_w (MHp I p dg sg wt op A S T) 92 cc x = MHp (pm_w I 92 cc x) p dg sg wt op A S T := fun x => MH_wq (by decide) (by decide) (by decide) (by decide)
  have main : ∀ (d' : Nat) (Q : pm_O → Prop), pm_V X (d' + 3) 128 0 [some (.ref 82), some (.int (nI cc))] [] (pm_S0 ++ g, MHp I p dg sg wt op A S T, J) Q = if (tkS (I 90) n (wdT (srT (nxT (I 90) n p))) p).1 = true ∧ nxT (I 90) n (tkS (I 90) n (wdT (srT (nxT (I 90) n p))) p).2 = 32 then Q (some (.int 1), (pm_S0 ++ g, MHp (pm_w I 92 cc (nI (srT (nxT (I 90) n p)))) ((tkS (I 90) n (wdT (srT (nxT (I 90) n p))) p).2 + 1) dg sg wt op A S T, J)) else Q (some (.int 0), (pm_S0 ++ g, MHp (pm_w I 92 cc (nI (srT (nxT (I 90) n p)))) (tkS (I 90) n (wdT (srT (nxT (I 90) n p))) p).2 dg sg wt op A S T, J)) := by
    intro d' Q
    have k0 := fun (d : Nat) (P : pm_O → Prop) => kw 0 (by decide) d P
    have k1 := fun (d : Nat) (P : pm_O → Prop) => kw 1 (by decide) d P
    have k2 := fun (d : Nat) (P : pm_O → Prop) => kw 2 (by decide) d P
    have k3 := fun (d : Nat) (P : pm_O → Prop) => kw 3 (by decide) d P
    have a0 : wdC 0 = 6897268 := rfl
    have a1 : wdC 1 = 663607 := rfl
    have a2 : wdC 2 = 637431 := rfl
    have a3 : wdC 3 = 2262611 := rfl
    have l0 : nI (wdT 0).length = 5 := rfl
    have l1 : nI (wdT 1).length = 4 := rfl
    have l2 : nI (wdT 2).length = 4 := rfl
    have l3 : nI (wdT 3).length = 5 := rfl
    have n0 : nI 0 = 0 := rfl
    have n1 : nI 1 = 1 := rfl
    have n2 : nI 2 = 2 := rfl
    have n3 : nI 3 = 3 := rfl
    rw [a0, l0, n0] at k0
    rw [a1, l1, n1] at k1
    rw [a2, l2, n2] at k2
    rw [a3, l3, n3] at k3
    by_cases q1 : nxT (I 90) n p = 102
    · have es : srT (nxT (I 90) n p) = 0 := by unfold srT; rw [if_pos q1]
      rw [es]
      rw [q1] at kn
      generalize tkS (I 90) n (wdT 0) p = u at k0 ⊢
      by_cases q : u.1 = true ∧ nxT (I 90) n u.2 = 32
      · simp only [e_M_takesHead_0, e_M_takesHead_1, e_M_takesHead_4_c102, e_M_takesHead_40, e_M_takesHead_41, e_M_takesHead_44, e_M_takesHead_45, e_M_takesHead_46, e_M_takesHead_47, e_M_takesHead_48, e_M_takesHead_50, e_M_takesHead_51, e_M_takesHead_54, sh_o_82, sh_r_82_16, sh_w_92, kn, hb, hc, w92, k0, n0, eq_true q, pm_opt_some, pm_opt_none, pm_opt_if, Bool.false_eq_true, Bool.not_false, Bool.not_true, if_false, if_true, true_and, and_true, true_or, or_true, not_true_eq_false, not_false_eq_true, q10, q00, q01, q11, pk_v, pk_i, pk_l, pk_r]
      · simp only [e_M_takesHead_0, e_M_takesHead_1, e_M_takesHead_4_c102, e_M_takesHead_40, e_M_takesHead_41, e_M_takesHead_44, e_M_takesHead_45, e_M_takesHead_46, e_M_takesHead_47, e_M_takesHead_48, e_M_takesHead_50, e_M_takesHead_51, e_M_takesHead_54, sh_o_82, sh_r_82_16, sh_w_92, kn, hb, hc, w92, k0, n0, eq_false q, pm_opt_some, pm_opt_none, pm_opt_if, Bool.false_eq_true, Bool.not_false, Bool.not_true, if_false, if_true, true_and, and_true, true_or, or_true, not_true_eq_false, not_false_eq_true, q10, q00, q01, q11, pk_v, pk_i, pk_l, pk_r]
    · by_cases q2 : nxT (I 90) n p = 116
      · have es : srT (nxT (I 90) n p) = 1 := by unfold srT; rw [if_neg q1, if_pos q2]
        rw [es]
        rw [q2] at kn
        generalize tkS (I 90) n (wdT 1) p = u at k1 ⊢
        by_cases q : u.1 = true ∧ nxT (I 90) n u.2 = 32
        · simp only [e_M_takesHead_0, e_M_takesHead_1, e_M_takesHead_4_c116, e_M_takesHead_55, e_M_takesHead_56, e_M_takesHead_59, e_M_takesHead_60, e_M_takesHead_61, e_M_takesHead_62, e_M_takesHead_63, e_M_takesHead_65, e_M_takesHead_66, e_M_takesHead_69, sh_o_82, sh_r_82_16, sh_w_92, kn, hb, hc, w92, k1, n1, eq_true q, pm_opt_some, pm_opt_none, pm_opt_if, Bool.false_eq_true, Bool.not_false, Bool.not_true, if_false, if_true, true_and, and_true, true_or, or_true, not_true_eq_false, not_false_eq_true, q10, q00, q01, q11, pk_v, pk_i, pk_l, pk_r]
        · simp only [e_M_takesHead_0, e_M_takesHead_1, e_M_takesHead_4_c116, e_M_takesHead_55, e_M_takesHead_56, e_M_takesHead_59, e_M_takesHead_60, e_M_takesHead_61, e_M_takesHead_62, e_M_takesHead_63, e_M_takesHead_65, e_M_takesHead_66, e_M_takesHead_69, sh_o_82, sh_r_82_16, sh_w_92, kn, hb, hc, w92, k1, n1, eq_false q, pm_opt_some, pm_opt_none, pm_opt_if, Bool.false_eq_true, Bool.not_false, Bool.not_true, if_false, if_true, true_and, and_true, true_or, or_true, not_true_eq_false, not_false_eq_true, q10, q00, q01, q11, pk_v, pk_i, pk_l, pk_r]
      · by_cases q3 : nxT (I 90) n p = 115
        · have es : srT (nxT (I 90) n p) = 2 := by unfold srT; rw [if_neg q1, if_neg q2, if_pos q3]
          rw [es]
          rw [q3] at kn
          generalize tkS (I 90) n (wdT 2) p = u at k2 ⊢
          by_cases q : u.1 = true ∧ nxT (I 90) n u.2 = 32
          · simp only [e_M_takesHead_0, e_M_takesHead_1, e_M_takesHead_4_c115, e_M_takesHead_70, e_M_takesHead_71, e_M_takesHead_74, e_M_takesHead_75, e_M_takesHead_76, e_M_takesHead_77, e_M_takesHead_78, e_M_takesHead_80, e_M_takesHead_81, e_M_takesHead_84, sh_o_82, sh_r_82_16, sh_w_92, kn, hb, hc, w92, k2, n2, eq_true q, pm_opt_some, pm_opt_none, pm_opt_if, Bool.false_eq_true, Bool.not_false, Bool.not_true, if_false, if_true, true_and, and_true, true_or, or_true, not_true_eq_false, not_false_eq_true, q10, q00, q01, q11, pk_v, pk_i, pk_l, pk_r]
          · simp only [e_M_takesHead_0, e_M_takesHead_1, e_M_takesHead_4_c115, e_M_takesHead_70, e_M_takesHead_71, e_M_takesHead_74, e_M_takesHead_75, e_M_takesHead_76, e_M_takesHead_77, e_M_takesHead_78, e_M_takesHead_80, e_M_takesHead_81, e_M_takesHead_84, sh_o_82, sh_r_82_16, sh_w_92, kn, hb, hc, w92, k2, n2, eq_false q, pm_opt_some, pm_opt_none, pm_opt_if, Bool.false_eq_true, Bool.not_false, Bool.not_true, if_false, if_true, true_and, and_true, true_or, or_true, not_true_eq_false, not_false_eq_true, q10, q00, q01, q11, pk_v, pk_i, pk_l, pk_r]
        · have es : srT (nxT (I 90) n p) = 3 := by unfold srT; rw [if_neg q1, if_neg q2, if_neg q3]
          rw [es]
          have ed := fun (d : Nat) (Q : pm_O → Prop) (S : List pm_S) (I' : Nat → Nat → Int32) (J : Nat → Nat → Int64) (l0 : Nat) (l1 : Int32) => e_M_takesHead_4_d (X := X) (d := d) (Q := Q) (S := S) (I := I') (J := J) (l0 := l0) (l1 := l1) q1 q3 q2
          generalize nxT (I 90) n p = x at kn ed
          generalize tkS (I 90) n (wdT 3) p = u at k3 ⊢
          by_cases q : u.1 = true ∧ nxT (I 90) n u.2 = 32
          · simp only [e_M_takesHead_0, e_M_takesHead_1, ed, e_M_takesHead_85, e_M_takesHead_86, e_M_takesHead_89, e_M_takesHead_90, e_M_takesHead_91, e_M_takesHead_92, e_M_takesHead_93, e_M_takesHead_95, e_M_takesHead_96, e_M_takesHead_99, sh_o_82, sh_r_82_16, sh_w_92, kn, hb, hc, w92, k3, n3, eq_true q, pm_opt_some, pm_opt_none, pm_opt_if, Bool.false_eq_true, Bool.not_false, Bool.not_true, if_false, if_true, true_and, and_true, true_or, or_true, not_true_eq_false, not_false_eq_true, q10, q00, q01, q11, pk_v, pk_i, pk_l, pk_r]
          · simp only [e_M_takesHead_0, e_M_takesHead_1, ed, e_M_takesHead_85, e_M_takesHead_86, e_M_takesHead_89, e_M_takesHead_90, e_M_takesHead_91, e_M_takesHead_92, e_M_takesHead_93, e_M_takesHead_95, e_M_takesHead_96, e_M_takesHead_99, sh_o_82, sh_r_82_16, sh_w_92, kn, hb, hc, w92, k3, n3, eq_false q, pm_opt_some, pm_opt_none, pm_opt_if, Bool.false_eq_true, Bool.not_false, Bool.not_true, if_false, if_true, true_and, and_true, true_or, or_true, not_true_eq_false, not_false_eq_true, q10, q00, q01, q11, pk_v, pk_i, pk_l, pk_r]
  refine K_if (k := 3) (fun hq d' => ?_) (fun hq d' => ?_)
  · show pm_V X (d' + 3) 128 0 [some (.ref 82), some (.int (nI cc))] [] (pm_S0 ++ g, MHp I p dg sg wt op A S T, J) _
    rw [main, if_pos hq]
  · show pm_V X (d' + 3) 128 0 [some (.ref 82), some (.int (nI cc))] [] (pm_S0 ++ g, MHp I p dg sg wt op A S T, J) _
    rw [main, if_neg hq]
end P81
