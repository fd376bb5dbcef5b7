/-! the parser: the class's clauses -/
def srT (c : Int32) : Nat := if c = 102 then 0 else if c = 116 then 1 else if c = 115 then 2 else 3
def wdT (s : Nat) : List Nat := if s = 0 then [102, 114, 111, 115, 116] else if s = 1 then [116, 104, 97, 119] else if s = 2 then [115, 110, 111, 119] else [98, 101, 97, 114, 115]
/-- a clause read: whether, the place, its sort, amount and signs -/
abbrev cR : Type := Bool × Nat × Nat × Nat × List Int32
def cond (T : Nat → Int32) (n p : Nat) : pR := pP T n (muP n 3 p) 3 0 p
def pCd (T : Nat → Int32) (n s v p : Nat) : cR := if s = 3 then (true, p, s, v, []) else if nxT T n p = 32 then ((cond T n (p + 1)).1, (cond T n (p + 1)).2.1, s, v, (cond T n (p + 1)).2.2) else (false, p, s, v, [])
def pCn (T : Nat → Int32) (n s p : Nat) : cR := if 0 ≤ dgI (nxT T n p) then pCd T n s (nuV T n p) (nuP T n p) else (false, p, s, 0, [])
def pCw (T : Nat → Int32) (n s p : Nat) : cR := if nxT T n p = 32 then pCn T n s (p + 1) else (false, p, s, 0, [])
def pCs (T : Nat → Int32) (n s p : Nat) : cR := if (tkS T n (wdT s) p).1 = true then pCw T n s (tkS T n (wdT s) p).2 else (false, (tkS T n (wdT s) p).2, s, 0, [])
def pC (T : Nat → Int32) (n p : Nat) : cR := pCs T n (srT (nxT T n p)) p
/-- the class's rows behind a clause -/
def ECl (I : Nat → Nat → Int32) (w c : Nat) (s v : Int32) (e : Nat) : Nat → Nat → Int32 := fun q i => if q = w + 1 ∧ i = c then s else if q = w + 2 ∧ i = c then v else if q = w + 3 ∧ i = c then nI e else if q = w ∧ i = 3 then nI (c + 1) else I q i
def ECo (I : Nat → Nat → Int32) (w c : Nat) (r : cR) (e : Nat) : Nat → Nat → Int32 := if r.1 = true then ECl I w c (nI r.2.2.1) (nI r.2.2.2.1) e else I
section P74
variable {X : pm_X} {d : Nat} {P Q : pm_O → Prop} {g : List pm_S} {S : List pm_S} {I I' I1 : Nat → Nat → Int32} {J J' : Nat → Nat → Int64} {a i n k p R w L F s m v : Nat} {b x y nu : Int32} {t : List Nat} {C T : Nat → Int32} {c : Nat}
theorem sr_lt (x : Int32) : srT x < 4 := by
  unfold srT
  split
  · omega
  · split
    · omega
    · split
      · omega
      · omega
theorem isT_s (hs : s < 4) : isT (1000010 + s) (wdT s) := by
  match s, hs with
  | 0, _ => exact isT_10
  | 1, _ => exact isT_11
  | 2, _ => exact isT_12
  | 3, _ => exact isT_13
theorem c102 : ¬ (102 : Int32) = -1 := by decide
theorem c116 : ¬ (116 : Int32) = -1 := by decide
theorem c115 : ¬ (115 : Int32) = -1 := by decide
theorem c32 : ¬ (32 : Int32) = -1 := by decide
theorem c59 : ¬ (59 : Int32) = -1 := by decide
theorem K_R_sortHere (h : RD g I R w n) (hp : p ≤ n) : pm_cl X (d + 2) 96 [.ref R] (pm_S0 ++ g, CHr I R w p nu L C, J) P = P (some (.int (nI (srT (nxT (I 25) n p)))), (pm_S0 ++ g, CHr I R w p nu L C, J)) := by
  have ho := h.2.2.2.2.1
  refine K_of (k := 1) (fun d' => ?_)
  show pm_V X (d' + 1) 96 0 [some (.ref R)] [] (pm_S0 ++ g, CHr I R w p nu L C, J) _
  have ki := fun (d : Nat) (P : pm_O → Prop) (c : Int32) (hc : ¬ c = -1) => K_R_isAt (X := X) (d := d) (P := P) (J := J) (nu := nu) (L := L) (C := C) h hp hc
  have n0 : nI 0 = 0 := rfl
  have n1 : nI 1 = 1 := rfl
  have n2 : nI 2 = 2 := rfl
  have n3 : nI 3 = 3 := rfl
  unfold srT
  by_cases q1 : nxT (I 25) n p = 102
  · simp only [e_R_sortHere_0, e_R_sortHere_1, e_R_sortHere_3, e_R_sortHere_6, e_R_sortHere_9, e_R_sortHere_10, e_R_sortHere_11, e_R_sortHere_12, e_R_sortHere_14, e_R_sortHere_17, e_R_sortHere_20, e_R_sortHere_21, e_R_sortHere_22, e_R_sortHere_23, e_R_sortHere_25, e_R_sortHere_28, e_R_sortHere_31, e_R_sortHere_32, e_R_sortHere_35, e_R_sortHere_36, ho, ki _ _ 102 c102, ki _ _ 116 c116, ki _ _ 115 c115, q1, n0, pm_opt_some, pm_opt_none, pm_opt_if, Bool.false_eq_true, Bool.not_false, Bool.not_true, if_false, if_true, true_and, and_true, true_or, or_true, not_true_eq_false, not_false_eq_true, q10, q00, q01, q11, pk_v, pk_i, pk_l, pk_r]
  · by_cases q2 : nxT (I 25) n p = 116
    · rw [if_neg q1, if_pos q2]
      simp only [e_R_sortHere_0, e_R_sortHere_1, e_R_sortHere_3, e_R_sortHere_6, e_R_sortHere_9, e_R_sortHere_10, e_R_sortHere_11, e_R_sortHere_12, e_R_sortHere_14, e_R_sortHere_17, e_R_sortHere_20, e_R_sortHere_21, e_R_sortHere_22, e_R_sortHere_23, e_R_sortHere_25, e_R_sortHere_28, e_R_sortHere_31, e_R_sortHere_32, e_R_sortHere_35, e_R_sortHere_36, ho, ki _ _ 102 c102, ki _ _ 116 c116, ki _ _ 115 c115, q1, (eq_true q2), n1, pm_opt_some, pm_opt_none, pm_opt_if, Bool.false_eq_true, Bool.not_false, Bool.not_true, if_false, if_true, true_and, and_true, true_or, or_true, not_true_eq_false, not_false_eq_true, q10, q00, q01, q11, pk_v, pk_i, pk_l, pk_r]
    · by_cases q3 : nxT (I 25) n p = 115
      · rw [if_neg q1, if_neg q2, if_pos q3]
        simp only [e_R_sortHere_0, e_R_sortHere_1, e_R_sortHere_3, e_R_sortHere_6, e_R_sortHere_9, e_R_sortHere_10, e_R_sortHere_11, e_R_sortHere_12, e_R_sortHere_14, e_R_sortHere_17, e_R_sortHere_20, e_R_sortHere_21, e_R_sortHere_22, e_R_sortHere_23, e_R_sortHere_25, e_R_sortHere_28, e_R_sortHere_31, e_R_sortHere_32, e_R_sortHere_35, e_R_sortHere_36, ho, ki _ _ 102 c102, ki _ _ 116 c116, ki _ _ 115 c115, q1, q2, (eq_true q3), n2, pm_opt_some, pm_opt_none, pm_opt_if, Bool.false_eq_true, Bool.not_false, Bool.not_true, if_false, if_true, true_and, and_true, true_or, or_true, not_true_eq_false, not_false_eq_true, q10, q00, q01, q11, pk_v, pk_i, pk_l, pk_r]
      · simp only [e_R_sortHere_0, e_R_sortHere_1, e_R_sortHere_3, e_R_sortHere_6, e_R_sortHere_9, e_R_sortHere_10, e_R_sortHere_11, e_R_sortHere_12, e_R_sortHere_14, e_R_sortHere_17, e_R_sortHere_20, e_R_sortHere_21, e_R_sortHere_22, e_R_sortHere_23, e_R_sortHere_25, e_R_sortHere_28, e_R_sortHere_31, e_R_sortHere_32, e_R_sortHere_35, e_R_sortHere_36, ho, ki _ _ 102 c102, ki _ _ 116 c116, ki _ _ 115 c115, q1, q2, q3, n3, pm_opt_some, pm_opt_none, pm_opt_if, Bool.false_eq_true, Bool.not_false, Bool.not_true, if_false, if_true, true_and, and_true, true_or, or_true, not_true_eq_false, not_false_eq_true, q10, q00, q01, q11, pk_v, pk_i, pk_l, pk_r]
theorem K_R_wordOf (hs : s < 4) : pm_cl X (d + 1) 97 [.int (nI s)] (S, I, J) P = P (some (.ref (1000010 + s)), (S, I, J)) := by
  refine K_of (k := 0) (fun d' => ?_)
  match s, hs with
  | 0, _ =>
    show pm_V X d' 97 0 [some (.int 0)] [] (S, I, J) _
    simp only [e_R_wordOf_0, e_R_wordOf_1_c0, e_R_wordOf_28, e_R_wordOf_30, pm_opt_some, pm_opt_none, pm_opt_if, Bool.false_eq_true, Bool.not_false, Bool.not_true, if_false, if_true, true_and, and_true, true_or, or_true, not_true_eq_false, not_false_eq_true, q10, q00, q01, q11, pk_v, pk_i, pk_l, pk_r]
  | 1, _ =>
    show pm_V X d' 97 0 [some (.int 1)] [] (S, I, J) _
    simp only [e_R_wordOf_0, e_R_wordOf_1_c1, e_R_wordOf_31, e_R_wordOf_33, pm_opt_some, pm_opt_none, pm_opt_if, Bool.false_eq_true, Bool.not_false, Bool.not_true, if_false, if_true, true_and, and_true, true_or, or_true, not_true_eq_false, not_false_eq_true, q10, q00, q01, q11, pk_v, pk_i, pk_l, pk_r]
  | 2, _ =>
    show pm_V X d' 97 0 [some (.int 2)] [] (S, I, J) _
    simp only [e_R_wordOf_0, e_R_wordOf_1_c2, e_R_wordOf_34, e_R_wordOf_36, pm_opt_some, pm_opt_none, pm_opt_if, Bool.false_eq_true, Bool.not_false, Bool.not_true, if_false, if_true, true_and, and_true, true_or, or_true, not_true_eq_false, not_false_eq_true, q10, q00, q01, q11, pk_v, pk_i, pk_l, pk_r]
  | 3, _ =>
    show pm_V X d' 97 0 [some (.int 3)] [] (S, I, J) _
    rw [e_R_wordOf_0, e_R_wordOf_1_d (Or.inr (by decide))]
    simp only [e_R_wordOf_37, e_R_wordOf_39, pm_opt_some, pm_opt_none, pm_opt_if, Bool.false_eq_true, Bool.not_false, Bool.not_true, if_false, if_true, true_and, and_true, true_or, or_true, not_true_eq_false, not_false_eq_true, q10, q00, q01, q11, pk_v, pk_i, pk_l, pk_r]
theorem K_W_endClause (h : RD g I R w n) (hc : c < 10) (he : I w 3 = nI c) : pm_cl X (d + 1) 78 [.ref w, .int x, .int y] (pm_S0 ++ g, CHr I R w p nu L C, J) P = P (none, (pm_S0 ++ g, CHr (ECl I w c x y L) R w p nu L C, J)) := by
  obtain ⟨w1, w2, w3, w4, w5, w6, w7, w8, w9⟩ := h.2.2.2.1
  have hR := h.2.1
  have hw := h.2.2.1
  have hb := bad_nI (k := c) (n := 10) hc (by decide)
  have hcl := nI_clamp (n := c) (by omega)
  have h1 : (nI c < 10) = True := eq_true (nI_lt (b := 10) hc (by decide))
  have ok : ∀ a, (pm_S0 ++ g)[a]? = some (1, 10, []) → pm_okw (pm_S0 ++ g) 1 a (nI c) = true := by
    intro a ha
    unfold pm_okw
    rw [ha]
    show ((1 : Nat) == 1 && !pm_bad (nI c) 10) = true
    rw [hb]
    rfl
  have o1 := ok _ w6
  have o2 := ok _ w7
  have o3 := ok _ w8
  have nR : ¬ w = R := by omega
  have f3 : CHr I R w p nu L C w 3 = nI c := by
    unfold CHr
    rw [if_neg nR, if_neg (by omega), if_pos rfl, if_neg (by decide), he]
  have f5 : CHr I R w p nu L C w 5 = nI L := CHr_L h
  have q1 : ∀ I k v, pm_w I (w + 1) k v w = I w := fun I k v => pw_ne (by omega)
  have q2 : ∀ I k v, pm_w I (w + 2) k v w = I w := fun I k v => pw_ne (by omega)
  have q3 : ∀ I k v, pm_w I (w + 3) k v w = I w := fun I k v => pw_ne (by omega)
  have fin : pm_w (pm_w (pm_w (pm_w (CHr I R w p nu L C) (w + 1) c x) (w + 2) c y) (w + 3) c (nI L)) w 3 (nI (c + 1)) = CHr (ECl I w c x y L) R w p nu L C := by
    funext q i
    simp only [pm_w_app]
    unfold CHr ECl
    by_cases e0 : q = w
    · subst e0
      have z1 : ¬ q = q + 1 := by omega
      have z2 : ¬ q = q + 2 := by omega
      have z3 : ¬ q = q + 3 := by omega
      have z4 : ¬ q = q + 4 := by omega
      by_cases e3 : i = 3
      · simp [nR, z1, z2, z3, z4, e3]
      · simp [nR, z1, z2, z3, z4, e3]
    · by_cases eR : q = R
      · subst eR
        have z1 : ¬ q = w + 1 := by omega
        have z2 : ¬ q = w + 2 := by omega
        have z3 : ¬ q = w + 3 := by omega
        have y1 : ¬ w = w + 1 := by omega
        have y2 : ¬ w = w + 2 := by omega
        have y3 : ¬ w = w + 3 := by omega
        simp [e0, z1, z2, z3]
      · by_cases e4 : q = w + 4
        · have z1 : ¬ q = w + 1 := by omega
          have z2 : ¬ q = w + 2 := by omega
          have z3 : ¬ q = w + 3 := by omega
          have eR4 : ¬ w + 4 = R := by omega
          simp [e0, eR, eR4, e4]
        · by_cases z1 : q = w + 1
          · have a2 : ¬ w + 1 = w + 2 := by omega
            have a3 : ¬ w + 1 = w + 3 := by omega
            have eR4 : ¬ w + 1 = R := by omega
            simp [z1, a2, a3, eR4]
          · by_cases z2 : q = w + 2
            · have a3 : ¬ w + 2 = w + 3 := by omega
              have eR4 : ¬ w + 2 = R := by omega
              simp [z2, a3, eR4]
            · by_cases z3 : q = w + 3
              · have eR4 : ¬ w + 3 = R := by omega
                simp [z3, eR4]
              · simp [e0, eR, e4, z1, z2, z3]
  refine K_of (k := 0) (fun d' => ?_)
  show pm_V X d' 78 0 [some (.ref w), some (.int x), some (.int y)] [] (pm_S0 ++ g, CHr I R w p nu L C, J) _
  simp only [e_W_endClause_0, e_W_endClause_1, e_W_endClause_4, e_W_endClause_6, e_W_endClause_10, e_W_endClause_11, e_W_endClause_14, e_W_endClause_15, e_W_endClause_18, e_W_endClause_19, e_W_endClause_20, e_W_endClause_21, e_W_endClause_24, e_W_endClause_25, e_W_endClause_28, e_W_endClause_29, e_W_endClause_30, e_W_endClause_31, e_W_endClause_34, e_W_endClause_35, e_W_endClause_38, e_W_endClause_39, e_W_endClause_42, e_W_endClause_43, e_W_endClause_44, e_W_endClause_45, e_W_endClause_48, e_W_endClause_49, e_W_endClause_50, e_W_endClause_53, w1, w2, w3, w4, h1, f3, f5, q1, q2, q3, hcl, o1, o2, o3, nI_1, fin, pm_opt_some, pm_opt_none, pm_opt_if, Bool.false_eq_true, Bool.not_false, Bool.not_true, if_false, if_true, true_and, and_true, true_or, or_true, not_true_eq_false, not_false_eq_true, q10, q00, q01, q11, pk_v, pk_i, pk_l, pk_r]
theorem cond_le (hp : p ≤ n) : okP n 3 p (cond T n p) := pP_le _ 3 0 p (by decide) hp
/-- what a clause leaves of the code's length and the code -/
def ccE (L : Nat) (C : Nat → Int32) (r : cR) (L' : Nat) (C' : Nat → Int32) : Prop := r.1 = true → L' = L + r.2.2.2.2.length ∧ C' = apL C L r.2.2.2.2
theorem R_clause (h : RD g I R w n) (hp : p ≤ n) (hL : L ≤ p) (hc : c < 10) (he : I w 3 = nI c) : ∃ nu' L' C', ccE L C (pC (I 25) n p) L' C' ∧ ∀ (d : Nat) (P : pm_O → Prop), pm_cl X (d + 26) 95 [.ref R] (pm_S0 ++ g, CHr I R w p nu L C, J) P = P (some (.int (b2i (pC (I 25) n p).1)), (pm_S0 ++ g, CHr (ECo I w c (pC (I 25) n p) L') R w (pC (I 25) n p).2.1 nu' L' C', J)) := by
  have ho := h.2.2.2.2.1
  have h2 := h.2.2.2.2.2.2.1
  have w1 := h.2.2.2.1.1
  have hn := h.2.2.2.2.2.2.2.2.1
  have ks := fun (d : Nat) (P : pm_O → Prop) => K_R_sortHere (X := X) (d := d) (P := P) (J := J) (nu := nu) (L := L) (C := C) h hp
  have hs := sr_lt (nxT (I 25) n p)
  unfold pC
  generalize srT (nxT (I 25) n p) = s at ks hs ⊢
  have kw := fun (d : Nat) (P : pm_O → Prop) => K_R_takeWord (X := X) (d := d) (P := P) (J := J) (nu := nu) (L := L) (C := C) h (isT_s hs) hp
  have ko := fun (d : Nat) (P : pm_O → Prop) (S : List pm_S) (I : Nat → Nat → Int32) (J : Nat → Nat → Int64) => K_R_wordOf (X := X) (d := d) (P := P) (S := S) (I := I) (J := J) hs
  have le := tk_le (T := I 25) (n := n) (wdT s) p hp (fun x hx => by
    obtain ⟨i, hi, e⟩ := List.mem_iff_getElem.mp hx
    have := (isT_s hs).2.2.2.2.2 i hi
    rw [List.getD_eq_getElem?_getD, List.getElem?_eq_getElem hi] at this
    rw [← e]
    exact this)
  have ts := is_t (isT_s hs)
  unfold pCs
  generalize tkS (I 25) n (wdT s) p = u at kw le ⊢
  obtain ⟨u1, u2⟩ := u
  obtain ⟨le1, le2⟩ := le
  dsimp only at kw le1 le2 ⊢
  have k32 := fun (d : Nat) (P : pm_O → Prop) (p : Nat) (nu : Int32) (hp : p ≤ n) => K_R_take (X := X) (d := d) (P := P) (J := J) (nu := nu) (L := L) (C := C) h hp c32
  cases u1 with
  | false =>
    rw [if_neg (by decide)]
    refine ⟨nu, L, C, fun z => (by cases z), fun d P => propext (pm_cl_of (k := 25) (by omega) (fun d' => ?_) P)⟩
    show pm_V X (d' + 25) 95 0 [some (.ref R), none, none] [] (pm_S0 ++ g, CHr I R w p nu L C, J) _
    simp only [e_R_takeClause_0, e_R_takeClause_1, e_R_takeClause_4, e_R_takeClause_5, e_R_takeClause_6, e_R_takeClause_7, e_R_takeClause_10, e_R_takeClause_13, e_R_takeClause_17, e_R_takeClause_19, e_R_takeClause_22, e_R_takeClause_25, e_R_takeClause_26, e_R_takeClause_29, e_R_takeClause_32, e_R_takeClause_33, e_R_takeClause_35, e_R_takeClause_38, e_R_takeClause_39, e_R_takeClause_40, e_R_takeClause_41, e_R_takeClause_44, e_R_takeClause_45, e_R_takeClause_47, e_R_takeClause_50, e_R_takeClause_53, e_R_takeClause_54, e_R_takeClause_55, e_R_takeClause_58, e_R_takeClause_61, e_R_takeClause_62, e_R_takeClause_63, e_R_takeClause_64, e_R_takeClause_67, e_R_takeClause_68, e_R_takeClause_69, e_R_takeClause_72, e_R_takeClause_73, ho, ks, ko, kw, ts, Bool.false_eq_true, b2_f, ECo, pm_opt_some, pm_opt_none, pm_opt_if, Bool.false_eq_true, Bool.not_false, Bool.not_true, if_false, if_true, true_and, and_true, true_or, or_true, not_true_eq_false, not_false_eq_true, q10, q00, q01, q11, pk_v, pk_i, pk_l, pk_r]
  | true =>
    rw [if_pos rfl]
    unfold pCw
    by_cases q1 : nxT (I 25) n u2 = 32
    · have p1 : u2 < n := nx_c q1 (by decide)
      rw [if_pos q1]
      unfold pCn
      have kn := fun (d : Nat) (P : pm_O → Prop) => K_R_takeNumber (X := X) (d := d) (P := P) (J := J) (nu := nu) (L := L) (C := C) h (show u2 + 1 ≤ n by omega)
      by_cases q2 : 0 ≤ dgI (nxT (I 25) n (u2 + 1))
      · have bd := nu_bd q2
        rw [if_pos q2]
        unfold pCd
        generalize nuV (I 25) n (u2 + 1) = v at kn bd ⊢
        generalize nuP (I 25) n (u2 + 1) = pn at kn bd ⊢
        have en : CHr I R w pn (nI v) L C R 4 = nI v := CHr_n
        by_cases q3 : s = 3
        · rw [if_pos q3]
          have e3 : (nI s = 3) = True := by rw [q3]; exact eq_true rfl
          refine ⟨nI v, L, C, fun _ => ⟨rfl, rfl⟩, fun d P => propext (pm_cl_of (k := 25) (by omega) (fun d' => ?_) P)⟩
          have kE := fun (d : Nat) (P : pm_O → Prop) => K_W_endClause (X := X) (d := d) (P := P) (J := J) (x := nI s) (y := nI v) (p := pn) (nu := nI v) (L := L) (C := C) h hc he
          show pm_V X (d' + 25) 95 0 [some (.ref R), none, none] [] (pm_S0 ++ g, CHr I R w p nu L C, J) _
          simp only [e_R_takeClause_0, e_R_takeClause_1, e_R_takeClause_4, e_R_takeClause_5, e_R_takeClause_6, e_R_takeClause_7, e_R_takeClause_10, e_R_takeClause_13, e_R_takeClause_16, e_R_takeClause_17, e_R_takeClause_19, e_R_takeClause_22, e_R_takeClause_25, e_R_takeClause_26, e_R_takeClause_29, e_R_takeClause_33, e_R_takeClause_34, e_R_takeClause_35, e_R_takeClause_38, e_R_takeClause_39, e_R_takeClause_40, e_R_takeClause_41, e_R_takeClause_45, e_R_takeClause_47, e_R_takeClause_50, e_R_takeClause_53, e_R_takeClause_54, e_R_takeClause_55, e_R_takeClause_58, e_R_takeClause_62, e_R_takeClause_63, e_R_takeClause_64, e_R_takeClause_67, e_R_takeClause_68, e_R_takeClause_69, e_R_takeClause_72, e_R_takeClause_73, ho, h2, w1, ks, ko, kw, ts, k32 _ _ u2 nu (show u2 ≤ n by omega), q1, q2, kn, en, e3, kE, b2_t, ECo, pm_opt_some, pm_opt_none, pm_opt_if, Bool.false_eq_true, Bool.not_false, Bool.not_true, if_false, if_true, true_and, and_true, true_or, or_true, not_true_eq_false, not_false_eq_true, q10, q00, q01, q11, pk_v, pk_i, pk_l, pk_r]
        · rw [if_neg q3]
          have e3 : (nI s = 3) = False := by
            refine eq_false (fun z => q3 ((nI_eq (b := 3) (by omega) (by omega)).mp z))
          by_cases q4 : nxT (I 25) n pn = 32
          · have p4 : pn < n := nx_c q4 (by decide)
            rw [if_pos q4]
            have cl := cond_le (T := I 25) (n := n) (p := pn + 1) (by omega)
            obtain ⟨nu1, L1, C1, c1, r1⟩ := (R_cond (X := X) (J := J) h (muP n 3 (pn + 1)) 3 0 (pn + 1) (nI v) L C (by decide) (Nat.le_refl _) (by omega) (by omega) (by omega)).2.2.1 rfl
            rw [show pP (I 25) n (muP n 3 (pn + 1)) 3 0 (pn + 1) = cond (I 25) n (pn + 1) from rfl] at c1 r1
            generalize cond (I 25) n (pn + 1) = r at c1 r1 cl ⊢
            refine ⟨nu1, L1, C1, c1, fun d P => propext (pm_cl_of (k := 25) (by omega) (fun d' => ?_) P)⟩
            have rr := fun (P : pm_O → Prop) => r1 (d' + 25) P (by omega)
            rw [nI_0] at rr
            show pm_V X (d' + 25) 95 0 [some (.ref R), none, none] [] (pm_S0 ++ g, CHr I R w p nu L C, J) _
            cases er : r.1 with
            | true =>
              have kE := fun (d : Nat) (P : pm_O → Prop) => K_W_endClause (X := X) (d := d) (P := P) (J := J) (x := nI s) (y := nI v) (p := r.2.1) (nu := nu1) (L := L1) (C := C1) h hc he
              rw [er] at rr
              simp only [e_R_takeClause_0, e_R_takeClause_1, e_R_takeClause_4, e_R_takeClause_5, e_R_takeClause_6, e_R_takeClause_7, e_R_takeClause_10, e_R_takeClause_13, e_R_takeClause_16, e_R_takeClause_17, e_R_takeClause_19, e_R_takeClause_22, e_R_takeClause_25, e_R_takeClause_26, e_R_takeClause_29, e_R_takeClause_33, e_R_takeClause_34, e_R_takeClause_35, e_R_takeClause_38, e_R_takeClause_39, e_R_takeClause_40, e_R_takeClause_41, e_R_takeClause_44, e_R_takeClause_45, e_R_takeClause_47, e_R_takeClause_50, e_R_takeClause_53, e_R_takeClause_54, e_R_takeClause_55, e_R_takeClause_58, e_R_takeClause_62, e_R_takeClause_63, e_R_takeClause_64, e_R_takeClause_67, e_R_takeClause_68, e_R_takeClause_69, e_R_takeClause_72, e_R_takeClause_73, ho, h2, w1, ks, ko, kw, ts, k32 _ _ u2 nu (show u2 ≤ n by omega), k32 _ _ pn (nI v) (show pn ≤ n by omega), q1, q2, q4, kn, en, e3, rr, kE, b2_t, ECo, pm_opt_some, pm_opt_none, pm_opt_if, Bool.false_eq_true, Bool.not_false, Bool.not_true, if_false, if_true, true_and, and_true, true_or, or_true, not_true_eq_false, not_false_eq_true, q10, q00, q01, q11, pk_v, pk_i, pk_l, pk_r]
            | false =>
              rw [er] at rr
              simp only [e_R_takeClause_0, e_R_takeClause_1, e_R_takeClause_4, e_R_takeClause_5, e_R_takeClause_6, e_R_takeClause_7, e_R_takeClause_10, e_R_takeClause_13, e_R_takeClause_16, e_R_takeClause_17, e_R_takeClause_19, e_R_takeClause_22, e_R_takeClause_25, e_R_takeClause_26, e_R_takeClause_29, e_R_takeClause_33, e_R_takeClause_34, e_R_takeClause_35, e_R_takeClause_38, e_R_takeClause_39, e_R_takeClause_40, e_R_takeClause_41, e_R_takeClause_44, e_R_takeClause_45, e_R_takeClause_47, e_R_takeClause_50, e_R_takeClause_53, e_R_takeClause_54, e_R_takeClause_55, e_R_takeClause_58, e_R_takeClause_61, e_R_takeClause_62, e_R_takeClause_64, e_R_takeClause_67, e_R_takeClause_68, e_R_takeClause_69, e_R_takeClause_72, e_R_takeClause_73, ho, h2, w1, ks, ko, kw, ts, k32 _ _ u2 nu (show u2 ≤ n by omega), k32 _ _ pn (nI v) (show pn ≤ n by omega), q1, q2, q4, kn, en, e3, rr, b2_f, ECo, Bool.false_eq_true, pm_opt_some, pm_opt_none, pm_opt_if, Bool.false_eq_true, Bool.not_false, Bool.not_true, if_false, if_true, true_and, and_true, true_or, or_true, not_true_eq_false, not_false_eq_true, q10, q00, q01, q11, pk_v, pk_i, pk_l, pk_r]
          · rw [if_neg q4]
            refine ⟨nI v, L, C, fun z => (by cases z), fun d P => propext (pm_cl_of (k := 25) (by omega) (fun d' => ?_) P)⟩
            show pm_V X (d' + 25) 95 0 [some (.ref R), none, none] [] (pm_S0 ++ g, CHr I R w p nu L C, J) _
            simp only [e_R_takeClause_0, e_R_takeClause_1, e_R_takeClause_4, e_R_takeClause_5, e_R_takeClause_6, e_R_takeClause_7, e_R_takeClause_10, e_R_takeClause_13, e_R_takeClause_16, e_R_takeClause_17, e_R_takeClause_19, e_R_takeClause_22, e_R_takeClause_25, e_R_takeClause_26, e_R_takeClause_29, e_R_takeClause_33, e_R_takeClause_34, e_R_takeClause_35, e_R_takeClause_38, e_R_takeClause_39, e_R_takeClause_40, e_R_takeClause_41, e_R_takeClause_44, e_R_takeClause_45, e_R_takeClause_47, e_R_takeClause_50, e_R_takeClause_54, e_R_takeClause_55, e_R_takeClause_58, e_R_takeClause_61, e_R_takeClause_62, e_R_takeClause_64, e_R_takeClause_67, e_R_takeClause_68, e_R_takeClause_69, e_R_takeClause_72, e_R_takeClause_73, ho, h2, w1, ks, ko, kw, ts, k32 _ _ u2 nu (show u2 ≤ n by omega), k32 _ _ pn (nI v) (show pn ≤ n by omega), q1, q2, q4, kn, en, e3, b2_f, ECo, Bool.false_eq_true, pm_opt_some, pm_opt_none, pm_opt_if, Bool.false_eq_true, Bool.not_false, Bool.not_true, if_false, if_true, true_and, and_true, true_or, or_true, not_true_eq_false, not_false_eq_true, q10, q00, q01, q11, pk_v, pk_i, pk_l, pk_r]
      · rw [if_neg q2]
        refine ⟨nu, L, C, fun z => (by cases z), fun d P => propext (pm_cl_of (k := 25) (by omega) (fun d' => ?_) P)⟩
        show pm_V X (d' + 25) 95 0 [some (.ref R), none, none] [] (pm_S0 ++ g, CHr I R w p nu L C, J) _
        simp only [e_R_takeClause_0, e_R_takeClause_1, e_R_takeClause_4, e_R_takeClause_5, e_R_takeClause_6, e_R_takeClause_7, e_R_takeClause_10, e_R_takeClause_13, e_R_takeClause_16, e_R_takeClause_17, e_R_takeClause_19, e_R_takeClause_22, e_R_takeClause_25, e_R_takeClause_26, e_R_takeClause_29, e_R_takeClause_32, e_R_takeClause_33, e_R_takeClause_35, e_R_takeClause_38, e_R_takeClause_39, e_R_takeClause_40, e_R_takeClause_41, e_R_takeClause_44, e_R_takeClause_45, e_R_takeClause_47, e_R_takeClause_50, e_R_takeClause_53, e_R_takeClause_54, e_R_takeClause_55, e_R_takeClause_58, e_R_takeClause_61, e_R_takeClause_62, e_R_takeClause_63, e_R_takeClause_64, e_R_takeClause_67, e_R_takeClause_68, e_R_takeClause_69, e_R_takeClause_72, e_R_takeClause_73, ho, ks, ko, kw, ts, k32 _ _ u2 nu (show u2 ≤ n by omega), q1, q2, kn, b2_f, ECo, Bool.false_eq_true, pm_opt_some, pm_opt_none, pm_opt_if, Bool.false_eq_true, Bool.not_false, Bool.not_true, if_false, if_true, true_and, and_true, true_or, or_true, not_true_eq_false, not_false_eq_true, q10, q00, q01, q11, pk_v, pk_i, pk_l, pk_r]
    · rw [if_neg q1]
      refine ⟨nu, L, C, fun z => (by cases z), fun d P => propext (pm_cl_of (k := 25) (by omega) (fun d' => ?_) P)⟩
      show pm_V X (d' + 25) 95 0 [some (.ref R), none, none] [] (pm_S0 ++ g, CHr I R w p nu L C, J) _
      simp only [e_R_takeClause_0, e_R_takeClause_1, e_R_takeClause_4, e_R_takeClause_5, e_R_takeClause_6, e_R_takeClause_7, e_R_takeClause_10, e_R_takeClause_13, e_R_takeClause_16, e_R_takeClause_17, e_R_takeClause_19, e_R_takeClause_22, e_R_takeClause_26, e_R_takeClause_29, e_R_takeClause_32, e_R_takeClause_33, e_R_takeClause_35, e_R_takeClause_38, e_R_takeClause_39, e_R_takeClause_40, e_R_takeClause_41, e_R_takeClause_44, e_R_takeClause_45, e_R_takeClause_47, e_R_takeClause_50, e_R_takeClause_53, e_R_takeClause_54, e_R_takeClause_55, e_R_takeClause_58, e_R_takeClause_61, e_R_takeClause_62, e_R_takeClause_63, e_R_takeClause_64, e_R_takeClause_67, e_R_takeClause_68, e_R_takeClause_69, e_R_takeClause_72, e_R_takeClause_73, ho, ks, ko, kw, ts, k32 _ _ u2 nu (show u2 ≤ n by omega), q1, b2_f, ECo, Bool.false_eq_true, pm_opt_some, pm_opt_none, pm_opt_if, Bool.false_eq_true, Bool.not_false, Bool.not_true, if_false, if_true, true_and, and_true, true_or, or_true, not_true_eq_false, not_false_eq_true, q10, q00, q01, q11, pk_v, pk_i, pk_l, pk_r]
end P74
