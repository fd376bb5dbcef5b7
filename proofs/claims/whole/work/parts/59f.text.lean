/-! the parser: the class's winter -/
/-- a clause written down: sort, amount, where its signs begin, its signs -/
abbrev cL : Type := Nat × Nat × Nat × List Int32
/-- a winter read: whether, the place, its clauses -/
abbrev wR : Type := Bool × Nat × List cL
def csW (x : cL) (q : wR) : wR := (q.1, q.2.1, x :: q.2.2)
def pW (T : Nat → Int32) (n : Nat) : Nat → Nat → Nat → wR
  | 0, p, _ => (false, p, [])
  | k + 1, p, L => if (pC T n p).1 = true then (if (pC T n p).2.1 = n then (true, (pC T n p).2.1, [((pC T n p).2.2.1, (pC T n p).2.2.2.1, L, (pC T n p).2.2.2.2)]) else if k = 0 then (false, (pC T n p).2.1, []) else if nxT T n (pC T n p).2.1 = 59 then csW ((pC T n p).2.2.1, (pC T n p).2.2.2.1, L, (pC T n p).2.2.2.2) (pW T n k ((pC T n p).2.1 + 1) (L + (pC T n p).2.2.2.2.length)) else (false, (pC T n p).2.1, [])) else (false, (pC T n p).2.1, [])
/-- the class's rows hold these clauses -/
def WC (I : Nat → Nat → Int32) (w L : Nat) (C : Nat → Int32) (ds : List cL) : Prop := I w 3 = nI ds.length ∧ (ds.length = 0 → L = 0) ∧ ∀ (c s v o : Nat) (t : List Int32), ds[c]? = some (s, v, o, t) → I (w + 1) c = nI s ∧ I (w + 2) c = nI v ∧ I (w + 3) c = nI (o + t.length) ∧ o + t.length ≤ L ∧ (c + 1 = ds.length → o + t.length = L) ∧ (c = 0 → o = 0) ∧ (∀ c', c = c' + 1 → I (w + 3) c' = nI o) ∧ ∀ i, i < t.length → C (o + i) = t.getD i 0
section P75
variable {X : pm_X} {d : Nat} {P Q : pm_O → Prop} {g : List pm_S} {S : List pm_S} {I I' I1 H : Nat → Nat → Int32} {J J' : Nat → Nat → Int64} {a i n k p R w L F s m v : Nat} {b x y nu : Int32} {t : List Int32} {C T : Nat → Int32} {c : Nat}
theorem apL_lt (l : List Int32) : ∀ (F : Nat → Int32) (r i : Nat), i < r → apL F r l i = F i := by
  induction l with
  | nil => intro F r i _; rfl
  | cons a l ih =>
    intro F r i h
    show apL (upd F r a) (r + 1) l i = F i
    rw [ih _ _ _ (by omega), upd_app, if_neg (by omega)]
theorem apL_at (l : List Int32) : ∀ (F : Nat → Int32) (r i : Nat), i < l.length → apL F r l (r + i) = l.getD i 0 := by
  induction l with
  | nil => intro F r i h; cases h
  | cons a l ih =>
    intro F r i h
    show apL (upd F r a) (r + 1) l (r + i) = _
    cases i with
    | zero => rw [apL_lt _ _ _ _ (by omega), Nat.add_zero, upd_app, if_pos rfl]; rfl
    | succ i =>
      rw [show r + (i + 1) = r + 1 + i by omega, ih _ _ _ (by simpa using h)]
      rfl
theorem gs_snoc {ds : List cL} {x y : cL} (h : (ds ++ [x])[c]? = some y) : (c < ds.length ∧ ds[c]? = some y) ∨ (c = ds.length ∧ y = x) := by
  by_cases q : c < ds.length
  · rw [List.getElem?_append_left q] at h
    exact Or.inl ⟨q, h⟩
  · by_cases e : c = ds.length
    · subst e
      rw [List.getElem?_concat_length] at h
      exact Or.inr ⟨rfl, (Option.some.inj h).symm⟩
    · rw [List.getElem?_eq_none (by rw [List.length_append, List.length_singleton]; omega)] at h
      cases h
theorem WC_snoc {ds : List cL} (h : WC I w L C ds) : WC (ECl I w ds.length (nI s) (nI v) (L + t.length)) w (L + t.length) (apL C L t) (ds ++ [(s, v, L, t)]) := by
  obtain ⟨h1, h2, h3⟩ := h
  have n1 : ¬ w + 1 = w := by omega
  have n2 : ¬ w + 2 = w := by omega
  have n3 : ¬ w + 3 = w := by omega
  have n12 : ¬ w + 2 = w + 1 := by omega
  have n13 : ¬ w + 3 = w + 1 := by omega
  have n23 : ¬ w + 3 = w + 2 := by omega
  have x1 : ∀ c, ECl I w ds.length (nI s) (nI v) (L + t.length) (w + 1) c = if c = ds.length then nI s else I (w + 1) c := by
    intro c
    unfold ECl
    by_cases q : c = ds.length
    · simp [q]
    · simp [q]
  have x2 : ∀ c, ECl I w ds.length (nI s) (nI v) (L + t.length) (w + 2) c = if c = ds.length then nI v else I (w + 2) c := by
    intro c
    unfold ECl
    by_cases q : c = ds.length
    · simp [q]
    · simp [q]
  have x3 : ∀ c, ECl I w ds.length (nI s) (nI v) (L + t.length) (w + 3) c = if c = ds.length then nI (L + t.length) else I (w + 3) c := by
    intro c
    unfold ECl
    by_cases q : c = ds.length
    · simp [q]
    · simp [q]
  have x0 : ECl I w ds.length (nI s) (nI v) (L + t.length) w 3 = nI (ds.length + 1) := by
    unfold ECl
    have a1 : ¬ w = w + 1 := by omega
    have a2 : ¬ w = w + 2 := by omega
    have a3 : ¬ w = w + 3 := by omega
    simp
  refine ⟨by rw [x0, List.length_append, List.length_singleton], fun z => by rw [List.length_append, List.length_singleton] at z; omega, fun c s' v' o t' hc => ?_⟩
  rw [x1, x2, x3, List.length_append, List.length_singleton]
  rcases gs_snoc hc with ⟨q, hq⟩ | ⟨q, hq⟩
  · obtain ⟨a1, a2, a3, a4, a5, a6, a7, a8⟩ := h3 c s' v' o t' hq
    have ne : ¬ c = ds.length := by omega
    rw [if_neg ne, if_neg ne, if_neg ne]
    refine ⟨a1, a2, a3, by omega, fun z => by omega, a6, fun c' hc' => ?_, fun i hi => ?_⟩
    · rw [x3, if_neg (by omega)]
      exact a7 c' hc'
    · rw [apL_lt _ _ _ _ (by omega)]
      exact a8 i hi
  · cases hq
    rw [if_pos q, if_pos q, if_pos q]
    refine ⟨rfl, rfl, rfl, Nat.le_refl _, fun _ => rfl, fun z => h2 (by omega), fun c' hc' => ?_, fun i hi => apL_at _ _ _ _ hi⟩
    rw [x3, if_neg (by omega)]
    have hlt : c' < ds.length := by omega
    have hg := List.getElem?_eq_getElem hlt
    generalize ds[c'] = y at hg
    obtain ⟨s2, v2, o2, t2⟩ := y
    obtain ⟨a1, a2, a3, a4, a5, _⟩ := h3 c' s2 v2 o2 t2 hg
    rw [a3, a5 (by omega)]
theorem RD_fr (h : RD g I R w n) (e1 : I' R 1 = I R 1) (e2 : I' 25 = I 25) : RD g I' R w n := by
  obtain ⟨a1, a2, a3, a4, a5, a6, a7, a8, a9, a10⟩ := h
  exact ⟨a1, a2, a3, a4, a5, a6, a7, e1.trans a8, a9, by rw [e2]; exact a10⟩
theorem EC_fr {e q : Nat} (h : q < w ∨ w + 3 < q) : ECl I w c x y e q = I q := by
  funext i
  unfold ECl
  rw [if_neg (by omega), if_neg (by omega), if_neg (by omega), if_neg (by omega)]
theorem pC_le (hp : p ≤ n) : p ≤ (pC T n p).2.1 ∧ (pC T n p).2.1 ≤ n ∧ ((pC T n p).1 = true → (pC T n p).2.2.2.2.length + p ≤ (pC T n p).2.1) := by
  have hs := sr_lt (nxT T n p)
  unfold pC
  generalize srT (nxT T n p) = s at hs ⊢
  have le := tk_le (T := T) (n := n) (wdT s) p hp (fun x hx => by
    obtain ⟨i, hi, e⟩ := List.mem_iff_getElem.mp hx
    have := (isT_s hs).2.2.2.2.2 i hi
    rw [List.getD_eq_getElem?_getD, List.getElem?_eq_getElem hi] at this
    rw [← e]
    exact this)
  unfold pCs
  generalize tkS T n (wdT s) p = u at le ⊢
  obtain ⟨u1, u2⟩ := u
  obtain ⟨le1, le2⟩ := le
  dsimp only at le1 le2 ⊢
  by_cases q0 : u1 = true
  · rw [if_pos q0]
    unfold pCw
    by_cases q1 : nxT T n u2 = 32
    · have p1 := nx_c q1 (by decide)
      rw [if_pos q1]
      unfold pCn
      by_cases q2 : 0 ≤ dgI (nxT T n (u2 + 1))
      · have bd := nu_bd q2
        rw [if_pos q2]
        unfold pCd
        by_cases q3 : s = 3
        · rw [if_pos q3]
          refine ⟨by dsimp only; omega, by dsimp only; omega, fun _ => by simp only [List.length_nil]; omega⟩
        · rw [if_neg q3]
          by_cases q4 : nxT T n (nuP T n (u2 + 1)) = 32
          · have p4 := nx_c q4 (by decide)
            rw [if_pos q4]
            obtain ⟨b1, b2, b3⟩ := cond_le (T := T) (n := n) (p := nuP T n (u2 + 1) + 1) (by omega)
            refine ⟨by dsimp only; omega, b2, fun z => ?_⟩
            have := (b3 z).1
            dsimp only
            omega
          · rw [if_neg q4]
            exact ⟨by dsimp only; omega, by dsimp only; omega, fun z => by cases z⟩
      · rw [if_neg q2]
        exact ⟨by dsimp only; omega, by dsimp only; omega, fun z => by cases z⟩
    · rw [if_neg q1]
      exact ⟨le2, le1, fun z => by cases z⟩
  · rw [if_neg q0]
    exact ⟨le2, le1, fun z => by cases z⟩
theorem R_wloop : ∀ (k c p : Nat) (nu : Int32) (L : Nat) (C : Nat → Int32) (I : Nat → Nat → Int32) (ds : List cL), c + k = 10 → ds.length = c → RD g I R w n → (∀ q, (q < w ∨ w + 3 < q) → I q = H q) → WC I w L C ds → p ≤ n → L ≤ p → ∃ I' nu' L' C', (∀ q, (q < w ∨ w + 3 < q) → I' q = H q) ∧ ((pW (H 25) n k p L).1 = true → WC I' w L' C' (ds ++ (pW (H 25) n k p L).2.2)) ∧ ∀ (d : Nat) (Q : pm_O → Prop), pm_V X (d + 27) 94 9 [some (.ref R), some (.int (nI c))] [] (pm_S0 ++ g, CHr I R w p nu L C, J) Q = Q (some (.int (b2i (pW (H 25) n k p L).1)), (pm_S0 ++ g, CHr I' R w (pW (H 25) n k p L).2.1 nu' L' C', J)) := by
  intro k
  induction k with
  | zero =>
    intro c p nu L C I ds hc hd h hf hW hp hL
    have h1 : (10 ≤ nI c) = True := by
      rw [show c = 10 by omega]
      exact eq_true (Int32.le_refl _)
    refine ⟨I, nu, L, C, hf, fun z => (by cases z), fun d Q => ?_⟩
    rw [e_R_takeWinter_9]
    simp only [e_R_takeWinter_0, e_R_takeWinter_1, e_R_takeWinter_4, e_R_takeWinter_7, e_R_takeWinter_8, e_R_takeWinter_10, e_R_takeWinter_12, e_R_takeWinter_16, e_R_takeWinter_19, e_R_takeWinter_22, e_R_takeWinter_23, e_R_takeWinter_24, e_R_takeWinter_25, e_R_takeWinter_28, e_R_takeWinter_29, e_R_takeWinter_32, e_R_takeWinter_35, e_R_takeWinter_36, e_R_takeWinter_37, e_R_takeWinter_38, e_R_takeWinter_40, e_R_takeWinter_43, e_R_takeWinter_44, e_R_takeWinter_46, e_R_takeWinter_49, e_R_takeWinter_52, e_R_takeWinter_53, e_R_takeWinter_54, e_R_takeWinter_57, e_R_takeWinter_60, e_R_takeWinter_61, h1, pW, b2_f, pm_opt_some, pm_opt_none, pm_opt_if, Bool.false_eq_true, Bool.not_false, Bool.not_true, if_false, if_true, true_and, and_true, true_or, or_true, not_true_eq_false, not_false_eq_true, q10, q00, q01, q11, pk_v, pk_i, pk_l, pk_r]
  | succ k ih =>
    intro c p nu L C I ds hc hd h hf hW hp hL
    have ho := h.2.2.2.2.1
    have h2 := h.2.2.2.2.2.2.1
    have hn := h.2.2.2.2.2.2.2.2.1
    have hRw : ¬ R = w := by have := h.2.1; have := h.2.2.1; omega
    have hR := h.2.1
    have hw := h.2.2.1
    have e25 : H 25 = I 25 := (hf 25 (by omega)).symm
    have h1 : (10 ≤ nI c) = False := by
      rw [show (10 : Int32) = nI 10 from rfl, nI_le_l (by omega) (by omega)]
      exact eq_false (by omega)
    have hk9 : (nI c = 9) = (k = 0) := propext ⟨fun z => by
      have := (nI_eq (b := 9) (by omega) (by omega)).mp z
      omega, fun z => by rw [show c = 9 by omega]; rfl⟩
    obtain ⟨nu1, L1, C1, c1, r1⟩ := R_clause (X := X) (J := J) (nu := nu) (C := C) h hp hL (show c < 10 by omega) (hW.1.trans (by rw [hd]))
    have le := pC_le (T := I 25) hp
    rw [pW, e25]
    generalize pC (I 25) n p = r at c1 r1 le ⊢
    obtain ⟨ok, p1, s, v, t⟩ := r
    obtain ⟨le1, le2, le3⟩ := le
    dsimp only at r1 le1 le2 le3 ⊢
    have rr := fun (d : Nat) (P : pm_O → Prop) => r1 d P
    cases ok with
    | false =>
      rw [if_neg (by decide)]
      refine ⟨I, nu1, L1, C1, hf, fun z => (by cases z), fun d Q => ?_⟩
      rw [e_R_takeWinter_9]
      simp only [e_R_takeWinter_0, e_R_takeWinter_1, e_R_takeWinter_4, e_R_takeWinter_7, e_R_takeWinter_8, e_R_takeWinter_10, e_R_takeWinter_12, e_R_takeWinter_15, e_R_takeWinter_16, e_R_takeWinter_19, e_R_takeWinter_22, e_R_takeWinter_23, e_R_takeWinter_25, e_R_takeWinter_28, e_R_takeWinter_29, e_R_takeWinter_32, e_R_takeWinter_35, e_R_takeWinter_36, e_R_takeWinter_37, e_R_takeWinter_38, e_R_takeWinter_40, e_R_takeWinter_43, e_R_takeWinter_44, e_R_takeWinter_46, e_R_takeWinter_49, e_R_takeWinter_52, e_R_takeWinter_53, e_R_takeWinter_54, e_R_takeWinter_57, e_R_takeWinter_60, e_R_takeWinter_61, h1, ho, rr, b2_f, ECo, Bool.false_eq_true, pm_opt_some, pm_opt_none, pm_opt_if, Bool.false_eq_true, Bool.not_false, Bool.not_true, if_false, if_true, true_and, and_true, true_or, or_true, not_true_eq_false, not_false_eq_true, q10, q00, q01, q11, pk_v, pk_i, pk_l, pk_r]
    | true =>
      rw [if_pos rfl]
      obtain ⟨eL, eC⟩ := c1 rfl
      dsimp only at eL eC
      have le3 := le3 rfl
      subst eL eC
      have hW' := WC_snoc (s := s) (v := v) (t := t) hW
      rw [hd] at hW'
      have eO : ECo I w c (true, p1, s, v, t) (L + t.length) = ECl I w c (nI s) (nI v) (L + t.length) := rfl
      rw [eO] at rr
      have hf' : ∀ q, (q < w ∨ w + 3 < q) → ECl I w c (nI s) (nI v) (L + t.length) q = H q := fun q hq => (EC_fr hq).trans (hf q hq)
      have h' : RD g (ECl I w c (nI s) (nI v) (L + t.length)) R w n := RD_fr h (by rw [EC_fr (by omega)]) (EC_fr (by omega))
      generalize ECl I w c (nI s) (nI v) (L + t.length) = I2 at rr hW' hf' h'
      have f1 : ∀ p, CHr I2 R w p nu1 (L + t.length) (apL C L t) R 3 = nI p := fun p => CHr_p
      have f2 : ∀ p, CHr I2 R w p nu1 (L + t.length) (apL C L t) R 1 = nI n := fun p => CHr_l h'
      have k59 := fun (d : Nat) (P : pm_O → Prop) => K_R_take (X := X) (d := d) (P := P) (J := J) (nu := nu1) (L := L + t.length) (C := apL C L t) h' le2 c59
      have hpn : (nI p1 = nI n) = (p1 = n) := propext (nI_eq (by omega) (by omega))
      by_cases q1 : p1 = n
      · rw [if_pos q1]
        refine ⟨I2, nu1, L + t.length, apL C L t, hf', fun _ => hW', fun d Q => ?_⟩
        rw [e_R_takeWinter_9]
        simp only [e_R_takeWinter_0, e_R_takeWinter_1, e_R_takeWinter_4, e_R_takeWinter_7, e_R_takeWinter_8, e_R_takeWinter_10, e_R_takeWinter_12, e_R_takeWinter_15, e_R_takeWinter_16, e_R_takeWinter_19, e_R_takeWinter_23, e_R_takeWinter_24, e_R_takeWinter_25, e_R_takeWinter_28, e_R_takeWinter_29, e_R_takeWinter_32, e_R_takeWinter_35, e_R_takeWinter_36, e_R_takeWinter_38, e_R_takeWinter_40, e_R_takeWinter_43, e_R_takeWinter_44, e_R_takeWinter_46, e_R_takeWinter_49, e_R_takeWinter_52, e_R_takeWinter_53, e_R_takeWinter_54, e_R_takeWinter_57, e_R_takeWinter_60, e_R_takeWinter_61, h1, ho, rr, f1, f2, hpn, eq_true q1, b2_t, pm_opt_some, pm_opt_none, pm_opt_if, Bool.false_eq_true, Bool.not_false, Bool.not_true, if_false, if_true, true_and, and_true, true_or, or_true, not_true_eq_false, not_false_eq_true, q10, q00, q01, q11, pk_v, pk_i, pk_l, pk_r]
      · rw [if_neg q1]
        by_cases q2 : k = 0
        · rw [if_pos q2]
          refine ⟨I2, nu1, L + t.length, apL C L t, hf', fun z => (by cases z), fun d Q => ?_⟩
          rw [e_R_takeWinter_9]
          simp only [e_R_takeWinter_0, e_R_takeWinter_1, e_R_takeWinter_4, e_R_takeWinter_7, e_R_takeWinter_8, e_R_takeWinter_10, e_R_takeWinter_12, e_R_takeWinter_15, e_R_takeWinter_16, e_R_takeWinter_19, e_R_takeWinter_23, e_R_takeWinter_24, e_R_takeWinter_25, e_R_takeWinter_28, e_R_takeWinter_29, e_R_takeWinter_32, e_R_takeWinter_36, e_R_takeWinter_37, e_R_takeWinter_38, e_R_takeWinter_40, e_R_takeWinter_44, e_R_takeWinter_46, e_R_takeWinter_49, e_R_takeWinter_52, e_R_takeWinter_53, e_R_takeWinter_54, e_R_takeWinter_57, e_R_takeWinter_60, e_R_takeWinter_61, h1, ho, rr, f1, f2, hpn, q1, hk9, eq_true q2, b2_t, b2_f, pm_opt_some, pm_opt_none, pm_opt_if, Bool.false_eq_true, Bool.not_false, Bool.not_true, if_false, if_true, true_and, and_true, true_or, or_true, not_true_eq_false, not_false_eq_true, q10, q00, q01, q11, pk_v, pk_i, pk_l, pk_r]
        · rw [if_neg q2]
          have e25' : I2 25 = I 25 := (hf' 25 (by omega)).trans e25
          rw [e25'] at k59
          by_cases q3 : nxT (I 25) n p1 = 59
          · have p3 := nx_c q3 (by decide)
            rw [if_pos q3]
            obtain ⟨I3, nu3, L3, C3, a1, a2, a3⟩ := ih (c + 1) (p1 + 1) nu1 (L + t.length) (apL C L t) I2 (ds ++ [(s, v, L, t)]) (by omega) (by rw [List.length_append, List.length_singleton, hd]) h' hf' hW' (by omega) (by omega)
            rw [e25] at a2 a3
            refine ⟨I3, nu3, L3, C3, a1, fun z => ?_, fun d Q => ?_⟩
            · have := a2 z
              rw [List.append_assoc] at this
              exact this
            · show _ = Q (some (.int (b2i (pW (I 25) n k (p1 + 1) (L + t.length)).1)), (pm_S0 ++ g, CHr I3 R w (pW (I 25) n k (p1 + 1) (L + t.length)).2.1 nu3 L3 C3, J))
              rw [← a3 d Q, e_R_takeWinter_9]
              simp only [e_R_takeWinter_0, e_R_takeWinter_1, e_R_takeWinter_4, e_R_takeWinter_7, e_R_takeWinter_8, e_R_takeWinter_10, e_R_takeWinter_12, e_R_takeWinter_15, e_R_takeWinter_16, e_R_takeWinter_19, e_R_takeWinter_23, e_R_takeWinter_24, e_R_takeWinter_25, e_R_takeWinter_28, e_R_takeWinter_29, e_R_takeWinter_32, e_R_takeWinter_36, e_R_takeWinter_37, e_R_takeWinter_38, e_R_takeWinter_40, e_R_takeWinter_43, e_R_takeWinter_44, e_R_takeWinter_46, e_R_takeWinter_49, e_R_takeWinter_52, e_R_takeWinter_53, e_R_takeWinter_54, e_R_takeWinter_57, e_R_takeWinter_60, e_R_takeWinter_61, h1, ho, rr, f1, f2, hpn, q1, hk9, q2, k59, eq_true q3, nI_1, b2_t, pm_opt_some, pm_opt_none, pm_opt_if, Bool.false_eq_true, Bool.not_false, Bool.not_true, if_false, if_true, true_and, and_true, true_or, or_true, not_true_eq_false, not_false_eq_true, q10, q00, q01, q11, pk_v, pk_i, pk_l, pk_r]
          · rw [if_neg q3]
            refine ⟨I2, nu1, L + t.length, apL C L t, hf', fun z => (by cases z), fun d Q => ?_⟩
            rw [e_R_takeWinter_9]
            simp only [e_R_takeWinter_0, e_R_takeWinter_1, e_R_takeWinter_4, e_R_takeWinter_7, e_R_takeWinter_8, e_R_takeWinter_10, e_R_takeWinter_12, e_R_takeWinter_15, e_R_takeWinter_16, e_R_takeWinter_19, e_R_takeWinter_23, e_R_takeWinter_24, e_R_takeWinter_25, e_R_takeWinter_28, e_R_takeWinter_29, e_R_takeWinter_32, e_R_takeWinter_36, e_R_takeWinter_37, e_R_takeWinter_38, e_R_takeWinter_40, e_R_takeWinter_43, e_R_takeWinter_44, e_R_takeWinter_46, e_R_takeWinter_49, e_R_takeWinter_52, e_R_takeWinter_53, e_R_takeWinter_57, e_R_takeWinter_60, e_R_takeWinter_61, h1, ho, rr, f1, f2, hpn, q1, hk9, q2, k59, q3, b2_t, b2_f, pm_opt_some, pm_opt_none, pm_opt_if, Bool.false_eq_true, Bool.not_false, Bool.not_true, if_false, if_true, true_and, and_true, true_or, or_true, not_true_eq_false, not_false_eq_true, q10, q00, q01, q11, pk_v, pk_i, pk_l, pk_r]
theorem CHr_self (h1 : H R 3 = nI p) (h2 : H R 4 = nu) (h3 : H w 5 = nI L) : CHr H R w p nu L (H (w + 4)) = H := by
  funext q i
  unfold CHr
  by_cases e1 : q = R
  · subst e1
    by_cases e2 : i = 3
    · subst e2
      simp [h1]
    · by_cases e3 : i = 4
      · subst e3
        simp [h2]
      · simp [e2, e3]
  · by_cases e2 : q = w + 4
    · subst e2
      simp [e1]
    · by_cases e3 : q = w
      · subst e3
        by_cases e4 : i = 5
        · subst e4
          simp [e1, h3]
        · simp [e1, e4]
      · simp [e1, e2, e3]
/-- the class reads a winter -/
theorem K_R_takeWinter (h : RD g H R w n) (h3 : H R 3 = nI 0) : ∃ I' nu' L' C', (∀ q, (q < w ∨ w + 3 < q) → I' q = H q) ∧ ((pW (H 25) n 10 0 0).1 = true → WC I' w L' C' (pW (H 25) n 10 0 0).2.2) ∧ ∀ (d : Nat) (P : pm_O → Prop), pm_cl X (d + 28) 94 [.ref R] (pm_S0 ++ g, H, J) P = P (some (.int (b2i (pW (H 25) n 10 0 0).1)), (pm_S0 ++ g, CHr I' R w (pW (H 25) n 10 0 0).2.1 nu' L' C', J)) := by
  have ho := h.2.2.2.2.1
  have h2 := h.2.2.2.2.2.2.1
  have w1 := h.2.2.2.1.1
  have hR := h.2.1
  have hw := h.2.2.1
  have e : CHr (pm_w (pm_w H w 3 0) w 5 0) R w 0 (H R 4) 0 (pm_w (pm_w H w 3 0) w 5 0 (w + 4)) = pm_w (pm_w H w 3 0) w 5 0 := by
    refine CHr_self ?_ ?_ ?_
    · rw [pw_ne (by omega), pw_ne (by omega)]
      exact h3
    · rw [pw_ne (by omega), pw_ne (by omega)]
    · rw [pw_eq, upd_app, if_pos rfl]
      rfl
  have hz : ∀ q, (q < w ∨ w + 3 < q) → pm_w (pm_w H w 3 0) w 5 0 q = H q := fun q hq => by rw [pw_ne (by omega), pw_ne (by omega)]
  have h' : RD g (pm_w (pm_w H w 3 0) w 5 0) R w n := RD_fr h (by rw [hz _ (by omega)]) (hz _ (by omega))
  have hW : WC (pm_w (pm_w H w 3 0) w 5 0) w 0 (pm_w (pm_w H w 3 0) w 5 0 (w + 4)) [] := by
    refine ⟨?_, fun _ => rfl, fun c s v o t hc => ?_⟩
    · rw [pw_eq, upd_app, if_neg (by decide), pw_eq, upd_app, if_pos rfl]
      rfl
    · rw [List.getElem?_nil] at hc
      cases hc
  obtain ⟨I', nu', L', C', a1, a2, a3⟩ := R_wloop (X := X) (J := J) (H := H) 10 0 0 (H R 4) 0 _ _ [] rfl rfl h' hz hW (Nat.zero_le _) (Nat.le_refl _)
  rw [nI_0, e] at a3
  refine ⟨I', nu', L', C', a1, a2, fun d P => propext (pm_cl_of (k := 27) (by omega) (fun d' => ?_) P)⟩
  have kb : ∀ (d : Nat) (P : pm_O → Prop), pm_cl X (d + 1) 76 [.ref w] (pm_S0 ++ g, H, J) P = P (none, (pm_S0 ++ g, pm_w (pm_w H w 3 0) w 5 0, J)) := by
    intro d P
    refine K_of (k := 0) (fun d' => ?_)
    show pm_V X d' 76 0 [some (.ref w)] [] (pm_S0 ++ g, H, J) _
    simp only [e_W_begin_0, e_W_begin_1, e_W_begin_2, e_W_begin_5, e_W_begin_6, e_W_begin_7, e_W_begin_10, w1, pm_opt_some, pm_opt_none, pm_opt_if, Bool.false_eq_true, Bool.not_false, Bool.not_true, if_false, if_true, true_and, and_true, true_or, or_true, not_true_eq_false, not_false_eq_true, q10, q00, q01, q11, pk_v, pk_i, pk_l, pk_r]
  show pm_V X (d' + 27) 94 0 [some (.ref R), none] [] (pm_S0 ++ g, H, J) _
  simp only [e_R_takeWinter_0, e_R_takeWinter_1, e_R_takeWinter_4, e_R_takeWinter_7, e_R_takeWinter_8, ho, h2, w1, kb, pm_opt_some, pm_opt_none, pm_opt_if, Bool.false_eq_true, Bool.not_false, Bool.not_true, if_false, if_true, true_and, and_true, true_or, or_true, not_true_eq_false, not_false_eq_true, q10, q00, q01, q11, pk_v, pk_i, pk_l, pk_r]
  rw [a3]
end P75
