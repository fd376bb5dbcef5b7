/-! the parser: the reference's winter -/
/-- rows that a clause may write, and how -/
def cfr (I I' : Nat → Nat → Int32) (cc : Nat) : Prop := (∀ q, ¬ q = 92 → ¬ q = 93 → ¬ q = 94 → I' q = I q) ∧ ∀ i, ¬ i = cc → I' 92 i = I 92 i ∧ I' 93 i = I 93 i ∧ I' 94 i = I 94 i
/-- the reference's rows hold these clauses -/
def WM (I : Nat → Nat → Int32) (S T : Nat → Int32) (f sg : Nat) (ds : List cL) : Prop := ∀ (c s v o : Nat) (t : List Int32), ds[c]? = some (s, v, o, t) → I 92 (10 * f + c) = nI s ∧ I 93 (10 * f + c) = nI v ∧ (¬ s = 3 → I 94 (10 * f + c) = nI (100 * f + o) ∧ T (10 * f + c) = nI (100 * f + o + t.length)) ∧ 100 * f + o + t.length ≤ sg ∧ ∀ i, i < t.length → S (100 * f + o + i) = encM (t.getD i 0)
/-- what a text may write -/
def tfr (H I' : Nat → Nat → Int32) (S0 S' T0 T' : Nat → Int32) (f : Nat) : Prop := (∀ q, ¬ q = 91 → ¬ q = 92 → ¬ q = 93 → ¬ q = 94 → I' q = H q) ∧ (∀ i, ¬ i = f → I' 91 i = H 91 i) ∧ (∀ i, i < 10 * f → I' 92 i = H 92 i ∧ I' 93 i = H 93 i ∧ I' 94 i = H 94 i ∧ T' i = T0 i) ∧ ∀ i, i < 100 * f → S' i = S0 i
section P82
variable {X : pm_X} {d : Nat} {P Q : pm_O → Prop} {g : List pm_S} {I I' H : Nat → Nat → Int32} {J : Nat → Nat → Int64} {a i n p sg s m v cc B k wt op f L : Nat} {b x y dg : Int32} {t : List Int32} {A S T S0 T0 S' T' : Nat → Int32} {c : Nat}
theorem M_clause (h : RM I n) (hcc : cc < 50) (hB : B ≤ 400) (hp : p ≤ n) (hs : sg ≤ B + p) : ∃ (I' : Nat → Nat → Int32) (dg' : Int32) (sg' wt' op' : Nat) (A' S' T' : Nat → Int32), cfr I I' cc ∧ (∀ i, i < sg → S' i = S i) ∧ (∀ i, ¬ i = cc → T' i = T i) ∧ ((pC (I 90) n p).1 = true → sg' = sg + (pC (I 90) n p).2.2.2.2.length ∧ S' = apL S sg (encl (pC (I 90) n p).2.2.2.2) ∧ I' 92 cc = nI (pC (I 90) n p).2.2.1 ∧ I' 93 cc = nI (pC (I 90) n p).2.2.2.1 ∧ (¬ (pC (I 90) n p).2.2.1 = 3 → I' 94 cc = nI sg ∧ T' cc = nI sg')) ∧ ∀ (d : Nat) (P : pm_O → Prop), pm_cl X (d + 8) 129 [.ref 82, .int (nI cc)] (pm_S0 ++ g, MHp I p dg sg wt op A S T, J) P = P (some (.int (b2i (pC (I 90) n p).1)), (pm_S0 ++ g, MHp I' (pC (I 90) n p).2.1 dg' sg' wt' op' A' S' T', J)) := by
  have hn := h.2
  have hb := bad_nI (k := cc) (n := 50) hcc (by decide)
  have hc := nI_clamp (n := cc) (by omega)
  have kh := fun (d : Nat) (P : pm_O → Prop) => K_M_takesHead (X := X) (d := d) (P := P) (g := g) (J := J) (dg := dg) (sg := sg) (wt := wt) (op := op) (A := A) (S := S) (T := T) h hcc hp
  have hs4 := sr_lt (nxT (I 90) n p)
  have le := tk_le (T := I 90) (n := n) (wdT (srT (nxT (I 90) n p))) p hp (wd_128 _ hs4)
  unfold pC pCs
  generalize srT (nxT (I 90) n p) = s at kh hs4 le ⊢
  generalize tkS (I 90) n (wdT s) p = u at kh le ⊢
  obtain ⟨u1, u2⟩ := u
  obtain ⟨le1, le2⟩ := le
  dsimp only at kh le1 le2 ⊢
  have fr1 : cfr I (pm_w I 92 cc (nI s)) cc := ⟨fun q h1 _ _ => pw_ne h1, fun i hi => ⟨by rw [pw_eq, upd_app, if_neg hi], by rw [pw_ne (by decide)], by rw [pw_ne (by decide)]⟩⟩
  by_cases q0 : u1 = true ∧ nxT (I 90) n u2 = 32
  · have p1 : u2 < n := nx_c q0.2 (by decide)
    rw [if_pos q0.1]
    unfold pCw
    rw [if_pos q0.2]
    unfold pCn
    have h1 : RM (pm_w I 92 cc (nI s)) n := RM_w (by decide) h
    have e90 : pm_w I 92 cc (nI s) 90 = I 90 := pw_ne (by decide)
    have kN := fun (d : Nat) (P : pm_O → Prop) => K_M_takesNumber (X := X) (d := d) (P := P) (g := g) (J := J) (dg := dg) (sg := sg) (wt := wt) (op := op) (A := A) (S := S) (T := T) h1 (show u2 + 1 ≤ n by omega)
    rw [e90] at kN
    simp only [eq_true q0, if_true] at kh
    by_cases q2 : 0 ≤ dgI (nxT (I 90) n (u2 + 1))
    · have bd := nu_bd q2
      rw [if_pos q2]
      unfold pCd
      generalize nuV (I 90) n (u2 + 1) = v at kN bd ⊢
      generalize nuP (I 90) n (u2 + 1) = pn at kN bd ⊢
      have w93 : pm_w (MHp (pm_w I 92 cc (nI s)) pn (nI v) sg wt op A S T) 93 cc (nI v) = MHp (pm_w (pm_w I 92 cc (nI s)) 93 cc (nI v)) pn (nI v) sg wt op A S T := MH_wq (by decide) (by decide) (by decide) (by decide)
      have r92 : MHp (pm_w (pm_w I 92 cc (nI s)) 93 cc (nI v)) pn (nI v) sg wt op A S T 92 cc = nI s := by
        rw [MH_q (by decide) (by decide) (by decide) (by decide), pw_ne (by decide), pw_eq, upd_app, if_pos rfl]
      have fr2 : cfr I (pm_w (pm_w I 92 cc (nI s)) 93 cc (nI v)) cc := ⟨fun q h1 h2 _ => by rw [pw_ne h2, pw_ne h1], fun i hi => ⟨by rw [pw_ne (by decide), pw_eq, upd_app, if_neg hi], by rw [pw_eq, upd_app, if_neg hi, pw_ne (by decide)], by rw [pw_ne (by decide), pw_ne (by decide)]⟩⟩
      have x92 : pm_w (pm_w I 92 cc (nI s)) 93 cc (nI v) 92 cc = nI s := by rw [pw_ne (by decide), pw_eq, upd_app, if_pos rfl]
      have x93 : pm_w (pm_w I 92 cc (nI s)) 93 cc (nI v) 93 cc = nI v := by rw [pw_eq, upd_app, if_pos rfl]
      have h2 : RM (pm_w (pm_w I 92 cc (nI s)) 93 cc (nI v)) n := RM_w (by decide) h1
      have e90' : pm_w (pm_w I 92 cc (nI s)) 93 cc (nI v) 90 = I 90 := by rw [pw_ne (by decide), pw_ne (by decide)]
      generalize pm_w (pm_w I 92 cc (nI s)) 93 cc (nI v) = I2 at w93 r92 fr2 x92 x93 h2 e90'
      by_cases q3 : s = 3
      · rw [if_pos q3]
        have e3 : (nI s = 3) = True := by rw [q3]; exact eq_true rfl
        refine ⟨I2, nI v, sg, wt, op, A, S, T, fr2, fun _ _ => rfl, fun _ _ => rfl, fun _ => ⟨rfl, rfl, x92, x93, fun z => absurd q3 z⟩, fun d P => propext (pm_cl_of (k := 7) (by omega) (fun d' => ?_) P)⟩
        show pm_V X (d' + 7) 129 0 [some (.ref 82), some (.int (nI cc))] [] (pm_S0 ++ g, MHp I p dg sg wt op A S T, J) _
        simp only [e_M_takesClause_0, e_M_takesClause_1, e_M_takesClause_2, e_M_takesClause_5, e_M_takesClause_8, e_M_takesClause_9, e_M_takesClause_12, e_M_takesClause_16, e_M_takesClause_17, e_M_takesClause_18, e_M_takesClause_21, e_M_takesClause_22, e_M_takesClause_23, e_M_takesClause_26, e_M_takesClause_27, e_M_takesClause_28, e_M_takesClause_31, e_M_takesClause_32, e_M_takesClause_33, e_M_takesClause_34, e_M_takesClause_38, e_M_takesClause_40, e_M_takesClause_43, e_M_takesClause_46, e_M_takesClause_47, e_M_takesClause_48, e_M_takesClause_51, e_M_takesClause_54, e_M_takesClause_55, e_M_takesClause_59, sh_o_82, sh_r_82_17, sh_r_82_16, sh_w_93, sh_i_92, kh, kN, q2, MH_13, hb, hc, w93, r92, e3, b2_t, pm_opt_some, pm_opt_none, pm_opt_if, Bool.false_eq_true, Bool.not_false, Bool.not_true, if_false, if_true, true_and, and_true, true_or, or_true, not_true_eq_false, not_false_eq_true, q10, q00, q01, q11, pk_v, pk_i, pk_l, pk_r]
      · rw [if_neg q3]
        have e3 : (nI s = 3) = False := by
          refine eq_false (fun z => q3 ((nI_eq (b := 3) (by omega) (by omega)).mp z))
        have k32 := fun (d : Nat) (P : pm_O → Prop) => K_M_takes (X := X) (d := d) (P := P) (g := g) (J := J) (c := 32) (dg := nI v) (sg := sg) (wt := wt) (op := op) (A := A) (S := S) (T := T) h2 (show pn ≤ n by omega)
        rw [e90'] at k32
        by_cases q4 : nxT (I 90) n pn = 32
        · have p4 : pn < n := nx_c q4 (by decide)
          rw [if_pos q4]
          obtain ⟨dg', sg', wt', op', A', S', T', a1, a2, a3, a4⟩ := K_M_takesE (X := X) (g := g) (J := J) (dg := nI v) (wt := wt) (op := op) (A := A) (S := S) (T := T) h2 hcc hB (show pn + 1 ≤ n by omega) (show sg ≤ B + (pn + 1) by omega)
          rw [e90'] at a3 a4
          generalize cond (I 90) n (pn + 1) = r at a3 a4 ⊢
          refine ⟨pm_w I2 94 cc (nI sg), dg', sg', wt', op', A', S', T', ⟨fun q y1 y2 y3 => by rw [pw_ne y3]; exact fr2.1 q y1 y2 y3, fun i hi => ⟨by rw [pw_ne (by decide)]; exact (fr2.2 i hi).1, by rw [pw_ne (by decide)]; exact (fr2.2 i hi).2.1, by rw [pw_eq, upd_app, if_neg hi]; exact (fr2.2 i hi).2.2⟩⟩, a1, a2, fun z => ?_, fun d P => propext (pm_cl_of (k := 7) (by omega) (fun d' => ?_) P)⟩
          · obtain ⟨b1, b2, b3⟩ := a3 z
            exact ⟨b1, b2, by rw [pw_ne (by decide)]; exact x92, by rw [pw_ne (by decide)]; exact x93, fun _ => ⟨by rw [pw_eq, upd_app, if_pos rfl], b3⟩⟩
          · show pm_V X (d' + 7) 129 0 [some (.ref 82), some (.int (nI cc))] [] (pm_S0 ++ g, MHp I p dg sg wt op A S T, J) _
            cases er : r.1 with
            | true =>
              rw [er, b2_t] at a4
              simp only [e_M_takesClause_0, e_M_takesClause_1, e_M_takesClause_2, e_M_takesClause_5, e_M_takesClause_8, e_M_takesClause_9, e_M_takesClause_12, e_M_takesClause_16, e_M_takesClause_17, e_M_takesClause_18, e_M_takesClause_21, e_M_takesClause_22, e_M_takesClause_23, e_M_takesClause_26, e_M_takesClause_27, e_M_takesClause_28, e_M_takesClause_31, e_M_takesClause_32, e_M_takesClause_33, e_M_takesClause_34, e_M_takesClause_37, e_M_takesClause_38, e_M_takesClause_40, e_M_takesClause_43, e_M_takesClause_46, e_M_takesClause_47, e_M_takesClause_48, e_M_takesClause_51, e_M_takesClause_54, e_M_takesClause_55, e_M_takesClause_59, sh_o_82, sh_r_82_17, sh_r_82_16, sh_w_93, sh_i_92, kh, kN, q2, MH_13, hb, hc, w93, r92, e3, k32, q4, a4, b2_t, pm_opt_some, pm_opt_none, pm_opt_if, Bool.false_eq_true, Bool.not_false, Bool.not_true, if_false, if_true, true_and, and_true, true_or, or_true, not_true_eq_false, not_false_eq_true, q10, q00, q01, q11, pk_v, pk_i, pk_l, pk_r]
            | false =>
              rw [er, b2_f] at a4
              simp only [e_M_takesClause_0, e_M_takesClause_1, e_M_takesClause_2, e_M_takesClause_5, e_M_takesClause_8, e_M_takesClause_9, e_M_takesClause_12, e_M_takesClause_16, e_M_takesClause_17, e_M_takesClause_18, e_M_takesClause_21, e_M_takesClause_22, e_M_takesClause_23, e_M_takesClause_26, e_M_takesClause_27, e_M_takesClause_28, e_M_takesClause_31, e_M_takesClause_32, e_M_takesClause_33, e_M_takesClause_34, e_M_takesClause_37, e_M_takesClause_38, e_M_takesClause_40, e_M_takesClause_43, e_M_takesClause_46, e_M_takesClause_47, e_M_takesClause_48, e_M_takesClause_51, e_M_takesClause_55, e_M_takesClause_58, e_M_takesClause_59, sh_o_82, sh_r_82_17, sh_r_82_16, sh_w_93, sh_i_92, kh, kN, q2, MH_13, hb, hc, w93, r92, e3, k32, q4, a4, b2_f, pm_opt_some, pm_opt_none, pm_opt_if, Bool.false_eq_true, Bool.not_false, Bool.not_true, if_false, if_true, true_and, and_true, true_or, or_true, not_true_eq_false, not_false_eq_true, q10, q00, q01, q11, pk_v, pk_i, pk_l, pk_r]
        · rw [if_neg q4]
          refine ⟨I2, nI v, sg, wt, op, A, S, T, fr2, fun _ _ => rfl, fun _ _ => rfl, fun z => (by cases z), fun d P => propext (pm_cl_of (k := 7) (by omega) (fun d' => ?_) P)⟩
          show pm_V X (d' + 7) 129 0 [some (.ref 82), some (.int (nI cc))] [] (pm_S0 ++ g, MHp I p dg sg wt op A S T, J) _
          simp only [e_M_takesClause_0, e_M_takesClause_1, e_M_takesClause_2, e_M_takesClause_5, e_M_takesClause_8, e_M_takesClause_9, e_M_takesClause_12, e_M_takesClause_16, e_M_takesClause_17, e_M_takesClause_18, e_M_takesClause_21, e_M_takesClause_22, e_M_takesClause_23, e_M_takesClause_26, e_M_takesClause_27, e_M_takesClause_28, e_M_takesClause_31, e_M_takesClause_32, e_M_takesClause_33, e_M_takesClause_34, e_M_takesClause_37, e_M_takesClause_38, e_M_takesClause_40, e_M_takesClause_43, e_M_takesClause_47, e_M_takesClause_48, e_M_takesClause_51, e_M_takesClause_55, e_M_takesClause_58, e_M_takesClause_59, sh_o_82, sh_r_82_17, sh_r_82_16, sh_w_93, sh_i_92, kh, kN, q2, MH_13, hb, hc, w93, r92, e3, k32, q4, b2_f, pm_opt_some, pm_opt_none, pm_opt_if, Bool.false_eq_true, Bool.not_false, Bool.not_true, if_false, if_true, true_and, and_true, true_or, or_true, not_true_eq_false, not_false_eq_true, q10, q00, q01, q11, pk_v, pk_i, pk_l, pk_r]
    · rw [if_neg q2]
      refine ⟨pm_w I 92 cc (nI s), dg, sg, wt, op, A, S, T, fr1, fun _ _ => rfl, fun _ _ => rfl, fun z => (by cases z), fun d P => propext (pm_cl_of (k := 7) (by omega) (fun d' => ?_) P)⟩
      show pm_V X (d' + 7) 129 0 [some (.ref 82), some (.int (nI cc))] [] (pm_S0 ++ g, MHp I p dg sg wt op A S T, J) _
      simp only [e_M_takesClause_0, e_M_takesClause_1, e_M_takesClause_2, e_M_takesClause_5, e_M_takesClause_8, e_M_takesClause_9, e_M_takesClause_12, e_M_takesClause_15, e_M_takesClause_16, e_M_takesClause_18, e_M_takesClause_21, e_M_takesClause_22, e_M_takesClause_23, e_M_takesClause_26, e_M_takesClause_27, e_M_takesClause_28, e_M_takesClause_31, e_M_takesClause_32, e_M_takesClause_33, e_M_takesClause_34, e_M_takesClause_37, e_M_takesClause_38, e_M_takesClause_40, e_M_takesClause_43, e_M_takesClause_46, e_M_takesClause_47, e_M_takesClause_48, e_M_takesClause_51, e_M_takesClause_54, e_M_takesClause_55, e_M_takesClause_58, e_M_takesClause_59, sh_o_82, kh, kN, q2, b2_f, pm_opt_some, pm_opt_none, pm_opt_if, Bool.false_eq_true, Bool.not_false, Bool.not_true, if_false, if_true, true_and, and_true, true_or, or_true, not_true_eq_false, not_false_eq_true, q10, q00, q01, q11, pk_v, pk_i, pk_l, pk_r]
  · simp only [eq_false q0, if_false] at kh
    refine ⟨pm_w I 92 cc (nI s), dg, sg, wt, op, A, S, T, fr1, fun _ _ => rfl, fun _ _ => rfl, fun z => ?_, fun d P => propext (pm_cl_of (k := 7) (by omega) (fun d' => ?_) P)⟩
    · exfalso
      by_cases q1 : u1 = true
      · rw [if_pos q1] at z
        unfold pCw at z
        rw [if_neg (fun y => q0 ⟨q1, y⟩)] at z
        cases z
      · rw [if_neg q1] at z
        cases z
    · have er : (if u1 = true then pCw (I 90) n s u2 else (false, u2, s, 0, [])) = (false, u2, s, 0, []) := by
        by_cases q1 : u1 = true
        · rw [if_pos q1]
          unfold pCw
          rw [if_neg (fun y => q0 ⟨q1, y⟩)]
        · rw [if_neg q1]
      rw [er]
      show pm_V X (d' + 7) 129 0 [some (.ref 82), some (.int (nI cc))] [] (pm_S0 ++ g, MHp I p dg sg wt op A S T, J) _
      simp only [e_M_takesClause_0, e_M_takesClause_1, e_M_takesClause_2, e_M_takesClause_5, e_M_takesClause_9, e_M_takesClause_12, e_M_takesClause_15, e_M_takesClause_16, e_M_takesClause_18, e_M_takesClause_21, e_M_takesClause_22, e_M_takesClause_23, e_M_takesClause_26, e_M_takesClause_27, e_M_takesClause_28, e_M_takesClause_31, e_M_takesClause_32, e_M_takesClause_33, e_M_takesClause_34, e_M_takesClause_37, e_M_takesClause_38, e_M_takesClause_40, e_M_takesClause_43, e_M_takesClause_46, e_M_takesClause_47, e_M_takesClause_48, e_M_takesClause_51, e_M_takesClause_54, e_M_takesClause_55, e_M_takesClause_58, e_M_takesClause_59, sh_o_82, kh, b2_f, pm_opt_some, pm_opt_none, pm_opt_if, Bool.false_eq_true, Bool.not_false, Bool.not_true, if_false, if_true, true_and, and_true, true_or, or_true, not_true_eq_false, not_false_eq_true, q10, q00, q01, q11, pk_v, pk_i, pk_l, pk_r]
theorem encl_at (h : i < t.length) : (encl t).getD i 0 = encM (t.getD i 0) := by
  unfold encl
  rw [List.getD_eq_getElem?_getD, List.getD_eq_getElem?_getD, List.getElem?_map, List.getElem?_eq_getElem h]
  rfl
theorem WM_snoc {ds : List cL} (hd : ds.length = c) (hW : WM I S T f (100 * f + L) ds) (hf : cfr I I' (10 * f + c)) (hT : ∀ i, ¬ i = 10 * f + c → T' i = T i) (h1 : I' 92 (10 * f + c) = nI s) (h2 : I' 93 (10 * f + c) = nI v) (h3 : ¬ s = 3 → I' 94 (10 * f + c) = nI (100 * f + L) ∧ T' (10 * f + c) = nI (100 * f + L + t.length)) : WM I' (apL S (100 * f + L) (encl t)) T' f (100 * f + L + t.length) (ds ++ [(s, v, L, t)]) := by
  intro c' s' v' o t' hc
  rcases gs_snoc hc with ⟨q, hq⟩ | ⟨q, hq⟩
  · obtain ⟨a1, a2, a3, a4, a5⟩ := hW c' s' v' o t' hq
    have ne : ¬ 10 * f + c' = 10 * f + c := by omega
    obtain ⟨b1, b2, b3⟩ := hf.2 _ ne
    refine ⟨b1.trans a1, b2.trans a2, fun z => ⟨b3.trans (a3 z).1, (hT _ ne).trans (a3 z).2⟩, by omega, fun i hi => ?_⟩
    rw [apL_lt _ _ _ _ (by omega)]
    exact a5 i hi
  · cases hq
    rw [q, hd]
    refine ⟨h1, h2, h3, Nat.le_refl _, fun i hi => ?_⟩
    rw [apL_at _ _ _ _ (by rw [encl_len]; exact hi), encl_at hi]
theorem M_tloop (hf : f < 5) : ∀ (k c p L : Nat) (dg : Int32) (wt op : Nat) (A S T : Nat → Int32) (I : Nat → Nat → Int32) (ds : List cL), 1 ≤ k → c + k = 10 → ds.length = c → RM I n → tfr H I S0 S T0 T f → WM I S T f (100 * f + L) ds → p ≤ n → L ≤ p → ∃ (I' : Nat → Nat → Int32) (dg' : Int32) (sg' wt' op' : Nat) (A' S' T' : Nat → Int32), tfr H I' S0 S' T0 T' f ∧ ((pW (H 90) n k p L).1 = true → WM I' S' T' f sg' (ds ++ (pW (H 90) n k p L).2.2) ∧ I' 91 f = nI (ds ++ (pW (H 90) n k p L).2.2).length) ∧ ∀ (d : Nat) (Q : pm_O → Prop), pm_V X (d + 9) 130 15 [some (.ref 82), some (.int (nI f)), some (.int (nI c))] [] (pm_S0 ++ g, MHp I p dg (100 * f + L) wt op A S T, J) Q = Q (some (.int (b2i (pW (H 90) n k p L).1)), (pm_S0 ++ g, MHp I' (pW (H 90) n k p L).2.1 dg' sg' wt' op' A' S' T', J)) := by
  intro k
  induction k with
  | zero =>
    intro c p L dg wt op A S T I ds hk
    omega
  | succ k ih =>
    intro c p L dg wt op A S T I ds _ hck hd h hF hW hp hL
    have hn := h.2
    have e90 : H 90 = I 90 := (hF.1 90 (by decide) (by decide) (by decide) (by decide)).symm
    have hmul : 10 * nI f = nI (10 * f) := pk_mul 10 f
    have hbf := bad_nI (k := f) (n := 5) hf (by decide)
    have hcf := nI_clamp (n := f) (by omega)
    have hk10 : (nI (c + 1) = 10) = (k = 0) := propext ⟨fun z => by
      have := (nI_eq (b := 10) (by omega) (by omega)).mp z
      omega, fun z => by rw [show c + 1 = 10 by omega]; rfl⟩
    obtain ⟨I1, dg1, sg1, wt1, op1, A1, S1, T1, b1, b2, b3, b4, b5⟩ := M_clause (X := X) (g := g) (J := J) (dg := dg) (wt := wt) (op := op) (A := A) (S := S) (T := T) h (show 10 * f + c < 50 by omega) (show 100 * f ≤ 400 by omega) hp (show 100 * f + L ≤ 100 * f + p by omega)
    have le := pC_le (T := I 90) hp
    have hF1 : ∀ I2, (∀ q, ¬ q = 91 → I2 q = I1 q) → (∀ i, ¬ i = f → I2 91 i = I1 91 i) → tfr H I2 S0 S1 T0 T1 f := by
      intro I2 y1 y2
      refine ⟨fun q z1 z2 z3 z4 => by rw [y1 q z1, b1.1 q z2 z3 z4]; exact hF.1 q z1 z2 z3 z4, fun i hi => by rw [y2 i hi, b1.1 91 (by decide) (by decide) (by decide)]; exact hF.2.1 i hi, fun i hi => ?_, fun i hi => by rw [b2 i (by omega)]; exact hF.2.2.2 i hi⟩
      have ne : ¬ i = 10 * f + c := by omega
      obtain ⟨c1, c2, c3⟩ := b1.2 i ne
      obtain ⟨d1, d2, d3, d4⟩ := hF.2.2.1 i hi
      rw [y1 92 (by decide), y1 93 (by decide), y1 94 (by decide), b3 i ne]
      exact ⟨c1.trans d1, c2.trans d2, c3.trans d3, d4⟩
    rw [pW, e90]
    generalize pC (I 90) n p = r at b4 b5 le ⊢
    obtain ⟨ok, p1, s, v, t⟩ := r
    obtain ⟨le1, le2, le3⟩ := le
    dsimp only at b4 b5 le1 le2 le3 ⊢
    cases ok with
    | false =>
      rw [if_neg (by decide)]
      refine ⟨I1, dg1, sg1, wt1, op1, A1, S1, T1, hF1 I1 (fun _ _ => rfl) (fun _ _ => rfl), fun z => (by cases z), fun d Q => ?_⟩
      rw [e_M_goesText_15]
      simp only [e_M_goesText_0, e_M_goesText_1, e_M_goesText_2, e_M_goesText_5, e_M_goesText_6, e_M_goesText_8, e_M_goesText_9, e_M_goesText_10, e_M_goesText_13, e_M_goesText_14, e_M_goesText_16, e_M_goesText_18, e_M_goesText_19, e_M_goesText_20, e_M_goesText_21, e_M_goesText_22, e_M_goesText_25, e_M_goesText_28, e_M_goesText_29, e_M_goesText_33, e_M_goesText_34, e_M_goesText_37, e_M_goesText_38, e_M_goesText_39, e_M_goesText_40, e_M_goesText_41, e_M_goesText_44, e_M_goesText_45, e_M_goesText_48, e_M_goesText_51, e_M_goesText_52, e_M_goesText_53, e_M_goesText_54, e_M_goesText_56, e_M_goesText_59, e_M_goesText_60, e_M_goesText_62, e_M_goesText_65, e_M_goesText_68, e_M_goesText_69, sh_o_82, hmul, nI_add, b5, b2_f, pm_opt_some, pm_opt_none, pm_opt_if, Bool.false_eq_true, Bool.not_false, Bool.not_true, if_false, if_true, true_and, and_true, true_or, or_true, not_true_eq_false, not_false_eq_true, q10, q00, q01, q11, pk_v, pk_i, pk_l, pk_r]
    | true =>
      rw [if_pos rfl]
      obtain ⟨c1, c2, c3, c4, c5⟩ := b4 rfl
      have le3 := le3 rfl
      subst c1 c2
      have hW1 := WM_snoc (s := s) (v := v) (t := t) hd hW b1 b3 c3 c4 c5
      have w91 : pm_w (MHp I1 p1 dg1 (100 * f + L + t.length) wt1 op1 A1 (apL S (100 * f + L) (encl t)) T1) 91 f (nI (c + 1)) = MHp (pm_w I1 91 f (nI (c + 1))) p1 dg1 (100 * f + L + t.length) wt1 op1 A1 (apL S (100 * f + L) (encl t)) T1 := MH_wq (by decide) (by decide) (by decide) (by decide)
      have hF2 := hF1 (pm_w I1 91 f (nI (c + 1))) (fun q hq => pw_ne hq) (fun i hi => by rw [pw_eq, upd_app, if_neg hi])
      have hW2 : WM (pm_w I1 91 f (nI (c + 1))) (apL S (100 * f + L) (encl t)) T1 f (100 * f + L + t.length) (ds ++ [(s, v, L, t)]) := by
        unfold WM at hW1 ⊢
        rw [pw_ne (by decide), pw_ne (by decide), pw_ne (by decide)]
        exact hW1
      have x91 : pm_w I1 91 f (nI (c + 1)) 91 f = nI (ds ++ [(s, v, L, t)]).length := by
        rw [pw_eq, upd_app, if_pos rfl, List.length_append, List.length_singleton, hd]
      have h2 : RM (pm_w I1 91 f (nI (c + 1))) n := ⟨by rw [pw_ne (by decide), b1.1 82 (by decide) (by decide) (by decide)]; exact h.1, h.2⟩
      have e11 : pm_w I1 91 f (nI (c + 1)) 82 11 = nI n := h2.1
      have e90' : pm_w I1 91 f (nI (c + 1)) 90 = I 90 := by rw [pw_ne (by decide), b1.1 90 (by decide) (by decide) (by decide)]
      generalize pm_w I1 91 f (nI (c + 1)) = I2 at w91 hF2 hW2 x91 h2 e11 e90'
      have k59 := fun (d : Nat) (P : pm_O → Prop) => K_M_takes (X := X) (d := d) (P := P) (g := g) (J := J) (c := 59) (dg := dg1) (sg := 100 * f + L + t.length) (wt := wt1) (op := op1) (A := A1) (S := apL S (100 * f + L) (encl t)) (T := T1) h2 le2
      rw [e90'] at k59
      have hpn : (nI p1 = nI n) = (p1 = n) := propext (nI_eq (by omega) (by omega))
      by_cases q1 : p1 = n
      · rw [if_pos q1]
        refine ⟨I2, dg1, 100 * f + L + t.length, wt1, op1, A1, apL S (100 * f + L) (encl t), T1, hF2, fun _ => ⟨hW2, x91⟩, fun d Q => ?_⟩
        rw [e_M_goesText_15]
        simp only [e_M_goesText_0, e_M_goesText_1, e_M_goesText_2, e_M_goesText_5, e_M_goesText_6, e_M_goesText_8, e_M_goesText_9, e_M_goesText_10, e_M_goesText_13, e_M_goesText_14, e_M_goesText_16, e_M_goesText_18, e_M_goesText_19, e_M_goesText_20, e_M_goesText_21, e_M_goesText_22, e_M_goesText_25, e_M_goesText_29, e_M_goesText_30, e_M_goesText_33, e_M_goesText_34, e_M_goesText_37, e_M_goesText_38, e_M_goesText_39, e_M_goesText_40, e_M_goesText_41, e_M_goesText_44, e_M_goesText_45, e_M_goesText_48, e_M_goesText_51, e_M_goesText_52, e_M_goesText_54, e_M_goesText_56, e_M_goesText_59, e_M_goesText_60, e_M_goesText_62, e_M_goesText_65, e_M_goesText_68, e_M_goesText_69, sh_o_82, sh_r_82_15, sh_w_91, hmul, nI_add, nI_1, b5, hbf, hcf, w91, MH_12, MH_11, e11, hpn, eq_true q1, b2_t, pm_opt_some, pm_opt_none, pm_opt_if, Bool.false_eq_true, Bool.not_false, Bool.not_true, if_false, if_true, true_and, and_true, true_or, or_true, not_true_eq_false, not_false_eq_true, q10, q00, q01, q11, pk_v, pk_i, pk_l, pk_r]
      · rw [if_neg q1]
        by_cases q2 : k = 0
        · rw [if_pos q2]
          refine ⟨I2, dg1, 100 * f + L + t.length, wt1, op1, A1, apL S (100 * f + L) (encl t), T1, hF2, fun z => (by cases z), fun d Q => ?_⟩
          rw [e_M_goesText_15]
          simp only [e_M_goesText_0, e_M_goesText_1, e_M_goesText_2, e_M_goesText_5, e_M_goesText_6, e_M_goesText_8, e_M_goesText_9, e_M_goesText_10, e_M_goesText_13, e_M_goesText_14, e_M_goesText_16, e_M_goesText_18, e_M_goesText_19, e_M_goesText_20, e_M_goesText_21, e_M_goesText_22, e_M_goesText_25, e_M_goesText_29, e_M_goesText_30, e_M_goesText_33, e_M_goesText_34, e_M_goesText_37, e_M_goesText_38, e_M_goesText_39, e_M_goesText_40, e_M_goesText_41, e_M_goesText_44, e_M_goesText_45, e_M_goesText_48, e_M_goesText_52, e_M_goesText_53, e_M_goesText_54, e_M_goesText_56, e_M_goesText_60, e_M_goesText_62, e_M_goesText_65, e_M_goesText_68, e_M_goesText_69, sh_o_82, sh_r_82_15, sh_w_91, hmul, nI_add, nI_1, b5, hbf, hcf, w91, MH_12, MH_11, e11, hpn, q1, hk10, eq_true q2, b2_t, b2_f, pm_opt_some, pm_opt_none, pm_opt_if, Bool.false_eq_true, Bool.not_false, Bool.not_true, if_false, if_true, true_and, and_true, true_or, or_true, not_true_eq_false, not_false_eq_true, q10, q00, q01, q11, pk_v, pk_i, pk_l, pk_r]
        · rw [if_neg q2]
          by_cases q3 : nxT (I 90) n p1 = 59
          · have p3 := nx_c q3 (by decide)
            rw [if_pos q3]
            obtain ⟨I3, dg3, sg3, wt3, op3, A3, S3, T3, g1, g2, g3⟩ := ih (c + 1) (p1 + 1) (L + t.length) dg1 wt1 op1 A1 (apL S (100 * f + L) (encl t)) T1 I2 (ds ++ [(s, v, L, t)]) (by omega) (by omega) (by rw [List.length_append, List.length_singleton, hd]) h2 hF2 (by rw [← Nat.add_assoc]; exact hW2) (by omega) (by omega)
            rw [e90] at g2 g3
            refine ⟨I3, dg3, sg3, wt3, op3, A3, S3, T3, g1, fun z => ?_, fun d Q => ?_⟩
            · have := g2 z
              rw [List.append_assoc] at this
              exact this
            · show _ = Q (some (.int (b2i (pW (I 90) n k (p1 + 1) (L + t.length)).1)), (pm_S0 ++ g, MHp I3 (pW (I 90) n k (p1 + 1) (L + t.length)).2.1 dg3 sg3 wt3 op3 A3 S3 T3, J))
              rw [← g3 d Q, e_M_goesText_15, ← Nat.add_assoc]
              simp only [e_M_goesText_0, e_M_goesText_1, e_M_goesText_2, e_M_goesText_5, e_M_goesText_6, e_M_goesText_8, e_M_goesText_9, e_M_goesText_10, e_M_goesText_13, e_M_goesText_14, e_M_goesText_16, e_M_goesText_18, e_M_goesText_19, e_M_goesText_20, e_M_goesText_21, e_M_goesText_22, e_M_goesText_25, e_M_goesText_29, e_M_goesText_30, e_M_goesText_33, e_M_goesText_34, e_M_goesText_37, e_M_goesText_38, e_M_goesText_39, e_M_goesText_40, e_M_goesText_41, e_M_goesText_44, e_M_goesText_45, e_M_goesText_48, e_M_goesText_52, e_M_goesText_53, e_M_goesText_54, e_M_goesText_56, e_M_goesText_59, e_M_goesText_60, e_M_goesText_62, e_M_goesText_65, e_M_goesText_69, sh_o_82, sh_r_82_15, sh_w_91, hmul, nI_add, nI_1, b5, hbf, hcf, w91, MH_12, MH_11, e11, hpn, q1, hk10, q2, k59, eq_true q3, b2_t, pm_opt_some, pm_opt_none, pm_opt_if, Bool.false_eq_true, Bool.not_false, Bool.not_true, if_false, if_true, true_and, and_true, true_or, or_true, not_true_eq_false, not_false_eq_true, q10, q00, q01, q11, pk_v, pk_i, pk_l, pk_r]
          · rw [if_neg q3]
            refine ⟨I2, dg1, 100 * f + L + t.length, wt1, op1, A1, apL S (100 * f + L) (encl t), T1, hF2, fun z => (by cases z), fun d Q => ?_⟩
            rw [e_M_goesText_15]
            simp only [e_M_goesText_0, e_M_goesText_1, e_M_goesText_2, e_M_goesText_5, e_M_goesText_6, e_M_goesText_8, e_M_goesText_9, e_M_goesText_10, e_M_goesText_13, e_M_goesText_14, e_M_goesText_16, e_M_goesText_18, e_M_goesText_19, e_M_goesText_20, e_M_goesText_21, e_M_goesText_22, e_M_goesText_25, e_M_goesText_29, e_M_goesText_30, e_M_goesText_33, e_M_goesText_34, e_M_goesText_37, e_M_goesText_38, e_M_goesText_39, e_M_goesText_40, e_M_goesText_41, e_M_goesText_44, e_M_goesText_45, e_M_goesText_48, e_M_goesText_52, e_M_goesText_53, e_M_goesText_54, e_M_goesText_56, e_M_goesText_59, e_M_goesText_60, e_M_goesText_62, e_M_goesText_65, e_M_goesText_68, e_M_goesText_69, sh_o_82, sh_r_82_15, sh_w_91, hmul, nI_add, nI_1, b5, hbf, hcf, w91, MH_12, MH_11, e11, hpn, q1, hk10, q2, k59, q3, b2_t, b2_f, pm_opt_some, pm_opt_none, pm_opt_if, Bool.false_eq_true, Bool.not_false, Bool.not_true, if_false, if_true, true_and, and_true, true_or, or_true, not_true_eq_false, not_false_eq_true, q10, q00, q01, q11, pk_v, pk_i, pk_l, pk_r]
theorem ex_nI (x : Int32) : ∃ m, x = nI m := by
  refine ⟨x.toBitVec.toNat, Int32.toBitVec_inj.mp (BitVec.eq_of_toNat_eq ?_)⟩
  show _ = x.toBitVec.toNat % 2 ^ 32
  rw [Nat.mod_eq_of_lt x.toBitVec.isLt]
theorem MH_self {p sg wt op : Nat} (h1 : I 82 12 = nI p) (h2 : I 82 22 = nI sg) (h3 : I 82 23 = nI wt) (h4 : I 82 24 = nI op) : MHp I p (I 82 13) sg wt op (I 97) (I 96) (I 95) = I := by
  funext q i
  unfold MHp
  by_cases e1 : q = 82
  · subst e1
    by_cases z1 : i = 12
    · subst z1; simp [h1]
    · by_cases z2 : i = 13
      · subst z2; simp
      · by_cases z3 : i = 22
        · subst z3; simp [h2]
        · by_cases z4 : i = 23
          · subst z4; simp [h3]
          · by_cases z5 : i = 24
            · subst z5; simp [h4]
            · simp [z1, z2, z3, z4, z5]
  · by_cases e2 : q = 97
    · subst e2; simp
    · by_cases e3 : q = 96
      · subst e3; simp
      · by_cases e4 : q = 95
        · subst e4; simp
        · simp [e1, e2, e3, e4]
def wHM (B : Nat → Nat → Int32) (f : Nat) (ok : Bool) : Nat → Nat → Int32 := if ok = true then pm_w (pm_w (pm_w B 82 11 0) 82 10 (nI f)) 82 9 (nI (f + 1)) else pm_w B 82 11 0
/-- winter() of the reference -/
theorem M_winter_run (hf : f < 5) (ef : H 82 9 = nI f) (h : RM H n) : ∃ (B : Nat → Nat → Int32) (sg' : Nat), (∀ k, SF.contains k = false → B 82 k = H 82 k) ∧ (∀ q, ¬ q = 82 → ¬ q = 97 → ¬ q = 96 → ¬ q = 95 → ¬ q = 91 → ¬ q = 92 → ¬ q = 93 → ¬ q = 94 → B q = H q) ∧ (∀ i, ¬ i = f → B 91 i = H 91 i) ∧ (∀ i, i < 10 * f → B 92 i = H 92 i ∧ B 93 i = H 93 i ∧ B 94 i = H 94 i ∧ B 95 i = H 95 i) ∧ (∀ i, i < 100 * f → B 96 i = H 96 i) ∧ ((pW (H 90) n 10 0 0).1 = true → WM B (B 96) (B 95) f sg' (pW (H 90) n 10 0 0).2.2 ∧ B 91 f = nI (pW (H 90) n 10 0 0).2.2.length) ∧ ∀ (d : Nat) (P : pm_O → Prop), pm_cl X (d + 50) 131 [.ref 82] (pm_S0 ++ g, H, J) P = P (some (.int (wA f (pW (H 90) n 10 0 0))), (pm_S0 ++ g, wHM B f (pW (H 90) n 10 0 0).1, J)) := by
  obtain ⟨p0, h1⟩ := ex_nI (H 82 12)
  obtain ⟨s0, h2⟩ := ex_nI (H 82 22)
  obtain ⟨t0, h3⟩ := ex_nI (H 82 23)
  obtain ⟨o0, h4⟩ := ex_nI (H 82 24)
  have hs := MH_self h1 h2 h3 h4
  obtain ⟨I', dg', sg', wt', op', A', S', T', a1, a2, a3⟩ := M_tloop (X := X) (g := g) (J := J) (H := H) (S0 := H 96) (T0 := H 95) hf 10 0 0 0 (H 82 13) t0 o0 (H 97) (H 96) (H 95) H [] (by decide) rfl rfl h ⟨fun _ _ _ _ _ => rfl, fun _ _ => rfl, fun _ _ => ⟨rfl, rfl, rfl, rfl⟩, fun _ _ => rfl⟩ (fun c s v o t hc => by
    rw [List.getElem?_nil] at hc
    cases hc) (Nat.zero_le _) (Nat.le_refl _)
  rw [List.nil_append] at a2
  rw [nI_0, Nat.add_zero] at a3
  have e5 : (nI f = 5) = False := eq_false (fun z => by
    have := (nI_eq (b := 5) (by omega) (by omega)).mp z
    omega)
  have w12 : pm_w (MHp H p0 (H 82 13) s0 t0 o0 (H 97) (H 96) (H 95)) 82 12 0 = MHp H 0 (H 82 13) s0 t0 o0 (H 97) (H 96) (H 95) := MH_w12 (k := 0)
  have hmul : 100 * nI f = nI (100 * f) := pk_mul 100 f
  have kg : ∀ (d : Nat) (P : pm_O → Prop), pm_cl X (d + 10) 130 [.ref 82, .int (nI f)] (pm_S0 ++ g, H, J) P = P (some (.int (b2i (pW (H 90) n 10 0 0).1)), (pm_S0 ++ g, MHp I' (pW (H 90) n 10 0 0).2.1 dg' sg' wt' op' A' S' T', J)) := by
    intro d P
    refine propext (pm_cl_of (k := 9) (by omega) (fun d' => ?_) P)
    show pm_V X (d' + 9) 130 0 [some (.ref 82), some (.int (nI f)), none] [] (pm_S0 ++ g, H, J) _
    have e0 : ∀ Q, pm_V X (d' + 9) 130 0 [some (.ref 82), some (.int (nI f)), none] [] (pm_S0 ++ g, MHp H p0 (H 82 13) s0 t0 o0 (H 97) (H 96) (H 95), J) Q = pm_V X (d' + 9) 130 15 [some (.ref 82), some (.int (nI f)), some (.int 0)] [] (pm_S0 ++ g, MHp H 0 (H 82 13) (100 * f) t0 o0 (H 97) (H 96) (H 95), J) Q := by
      intro Q
      simp only [e_M_goesText_0, e_M_goesText_1, e_M_goesText_2, e_M_goesText_5, e_M_goesText_6, e_M_goesText_8, e_M_goesText_9, e_M_goesText_10, e_M_goesText_13, e_M_goesText_14, sh_o_82, w12, hmul, MH_w22, pm_opt_some, pm_opt_none, pm_opt_if, Bool.false_eq_true, Bool.not_false, Bool.not_true, if_false, if_true, true_and, and_true, true_or, or_true, not_true_eq_false, not_false_eq_true, q10, q00, q01, q11, pk_v, pk_i, pk_l, pk_r]
    rw [hs] at e0
    rw [e0, a3]
  obtain ⟨f1, f2, f3, f4⟩ := a1
  have e82 : ∀ k, SF.contains k = false → MHp I' (pW (H 90) n 10 0 0).2.1 dg' sg' wt' op' A' S' T' 82 k = H 82 k := by
    intro k hk
    have z1 : ¬ k = 12 := by rintro rfl; cases hk
    have z2 : ¬ k = 13 := by rintro rfl; cases hk
    have z3 : ¬ k = 22 := by rintro rfl; cases hk
    have z4 : ¬ k = 23 := by rintro rfl; cases hk
    have z5 : ¬ k = 24 := by rintro rfl; cases hk
    unfold MHp
    rw [if_pos rfl, if_neg z1, if_neg z2, if_neg z3, if_neg z4, if_neg z5, f1 82 (by decide) (by decide) (by decide) (by decide)]
  refine ⟨MHp I' (pW (H 90) n 10 0 0).2.1 dg' sg' wt' op' A' S' T', sg', e82, fun q z1 z2 z3 z4 z5 z6 z7 z8 => by rw [MH_q z1 z2 z3 z4]; exact f1 q z5 z6 z7 z8, fun i hi => by rw [MH_q (by decide) (by decide) (by decide) (by decide)]; exact f2 i hi, fun i hi => by rw [MH_q (by decide) (by decide) (by decide) (by decide), MH_q (i := 93) (by decide) (by decide) (by decide) (by decide), MH_q (i := 94) (by decide) (by decide) (by decide) (by decide)]; exact f3 i hi, f4, fun z => ⟨?_, by rw [MH_q (by decide) (by decide) (by decide) (by decide)]; exact (a2 z).2⟩, fun d P => propext (pm_cl_of (k := 49) (by omega) (fun d' => ?_) P)⟩
  · have := (a2 z).1
    unfold WM at this ⊢
    rw [MH_q (by decide) (by decide) (by decide) (by decide), MH_q (i := 93) (by decide) (by decide) (by decide) (by decide), MH_q (i := 94) (by decide) (by decide) (by decide) (by decide)]
    exact this
  · have e9 := e82 9 (by decide)
    have e12 : MHp I' (pW (H 90) n 10 0 0).2.1 dg' sg' wt' op' A' S' T' 82 12 = nI (pW (H 90) n 10 0 0).2.1 := rfl
    generalize MHp I' (pW (H 90) n 10 0 0).2.1 dg' sg' wt' op' A' S' T' = B at kg e9 e12 ⊢
    generalize pW (H 90) n 10 0 0 = r at kg e12 ⊢
    obtain ⟨ok, p', cls⟩ := r
    dsimp only at kg e12 ⊢
    have z0 : pm_w B 82 11 0 82 12 = nI p' := by rw [pw_eq, upd_app, if_neg (by decide)]; exact e12
    have z1 : pm_w B 82 11 0 82 9 = nI f := by rw [pw_eq, upd_app, if_neg (by decide), e9]; exact ef
    have z2 : pm_w (pm_w B 82 11 0) 82 10 (nI f) 82 9 = nI f := by rw [pw_eq, upd_app, if_neg (by decide)]; exact z1
    have z3 : pm_w (pm_w (pm_w B 82 11 0) 82 10 (nI f)) 82 9 (nI (f + 1)) 82 10 = nI f := by rw [pw_eq, upd_app, if_neg (by decide), pw_eq, upd_app, if_pos rfl]
    show pm_V X (d' + 49) 131 0 [some (.ref 82), none] [] (pm_S0 ++ g, H, J) _
    cases ok with
    | false =>
      simp only [e_M_winter_0, e_M_winter_1, e_M_winter_4, e_M_winter_5, e_M_winter_10, e_M_winter_11, e_M_winter_12, e_M_winter_13, e_M_winter_16, e_M_winter_19, e_M_winter_20, e_M_winter_21, e_M_winter_22, e_M_winter_25, e_M_winter_26, e_M_winter_29, e_M_winter_31, e_M_winter_32, e_M_winter_35, e_M_winter_36, e_M_winter_38, e_M_winter_39, e_M_winter_42, e_M_winter_45, e_M_winter_46, e_M_winter_47, e_M_winter_50, e_M_winter_51, e_M_winter_52, e_M_winter_55, e_M_winter_56, e_M_winter_59, sh_o_82, ef, e5, kg, z0, b2_f, wA, wHM, Bool.false_eq_true, pm_opt_some, pm_opt_none, pm_opt_if, Bool.false_eq_true, Bool.not_false, Bool.not_true, if_false, if_true, true_and, and_true, true_or, or_true, not_true_eq_false, not_false_eq_true, q10, q00, q01, q11, pk_v, pk_i, pk_l, pk_r]
    | true =>
      simp only [e_M_winter_0, e_M_winter_1, e_M_winter_4, e_M_winter_5, e_M_winter_10, e_M_winter_11, e_M_winter_12, e_M_winter_13, e_M_winter_16, e_M_winter_19, e_M_winter_20, e_M_winter_21, e_M_winter_22, e_M_winter_25, e_M_winter_26, e_M_winter_31, e_M_winter_32, e_M_winter_35, e_M_winter_36, e_M_winter_37, e_M_winter_38, e_M_winter_39, e_M_winter_42, e_M_winter_45, e_M_winter_46, e_M_winter_47, e_M_winter_50, e_M_winter_51, e_M_winter_52, e_M_winter_55, e_M_winter_56, e_M_winter_59, sh_o_82, ef, e5, kg, z1, z2, z3, nI_1, b2_t, wA, wHM, pm_opt_some, pm_opt_none, pm_opt_if, Bool.false_eq_true, Bool.not_false, Bool.not_true, if_false, if_true, true_and, and_true, true_or, or_true, not_true_eq_false, not_false_eq_true, q10, q00, q01, q11, pk_v, pk_i, pk_l, pk_r]
end P82
