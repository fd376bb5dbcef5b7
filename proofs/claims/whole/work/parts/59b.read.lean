/-! the parser: the class's small methods -/
/-- the byte at a place, -1 behind the end -/
def nxT (T : Nat → Int32) (n p : Nat) : Int32 := if p < n then T p else -1
def dgL : List Nat := [48, 49, 50, 51, 52, 53, 54, 55, 56, 57]
def dgI (c : Int32) : Int32 := ixL dgL c 0
def dgN (c : Int32) : Nat := (dgI c).toNatClampNeg
def nuV (T : Nat → Int32) (n p : Nat) : Nat := if 0 ≤ dgI (nxT T n (p + 1)) then 10 * dgN (nxT T n p) + dgN (nxT T n (p + 1)) else dgN (nxT T n p)
def nuP (T : Nat → Int32) (n p : Nat) : Nat := if 0 ≤ dgI (nxT T n (p + 1)) then p + 2 else p + 1
def tkS (T : Nat → Int32) (n : Nat) : List Nat → Nat → Bool × Nat
  | [], p => (true, p)
  | c :: cs, p => if nxT T n p = nI c then tkS T n cs (p + 1) else (false, p)
/-- the class's cells while it reads -/
def CHr (I : Nat → Nat → Int32) (R w p : Nat) (nu : Int32) (L : Nat) (C : Nat → Int32) : Nat → Nat → Int32 := fun q i => if q = R then (if i = 3 then nI p else if i = 4 then nu else I R i) else if q = w + 4 then C i else if q = w then (if i = 5 then nI L else I w i) else I q i
def RD (g : List pm_S) (I : Nat → Nat → Int32) (R w n : Nat) : Prop := g.length ≤ 700 ∧ 123 ≤ R ∧ (45 ≤ w ∧ w ≤ 65) ∧ winAt (pm_S0 ++ g) w ∧ pm_isO (pm_S0 ++ g) R 6 = true ∧ pm_rg (pm_S0 ++ g) R 6 0 = some (.ref 25) ∧ pm_rg (pm_S0 ++ g) R 6 2 = some (.ref w) ∧ I R 1 = nI n ∧ n ≤ 100 ∧ ∀ k, (I 25 k).toInt8.toInt32 = I 25 k
section P71
variable {X : pm_X} {d : Nat} {P Q : pm_O → Prop} {g : List pm_S} {S : List pm_S} {I I' I1 : Nat → Nat → Int32} {J J' : Nat → Nat → Int64} {a i n k p R w L : Nat} {b c x y nu v : Int32} {t : List Nat} {C T : Nat → Int32}
theorem CHr_p : CHr I R w p nu L C R 3 = nI p := by simp [CHr]
theorem CHr_n : CHr I R w p nu L C R 4 = nu := by simp [CHr]
theorem CHr_l (h : RD g I R w n) : CHr I R w p nu L C R 1 = nI n := by
  have e := h.2.2.2.2.2.2.2.1
  simp [CHr, e]
theorem CHr_L (h : RD g I R w n) : CHr I R w p nu L C w 5 = nI L := by
  have h1 : ¬ w = R := by have := h.2.1; have := h.2.2.1; omega
  simp [CHr, h1]
theorem CHr_25 (h : RD g I R w n) : CHr I R w p nu L C 25 = I 25 := by
  have h1 : ¬ 25 = R := by have := h.2.1; omega
  have h2 : ¬ 25 = w + 4 := by have := h.2.2.1; omega
  have h3 : ¬ 25 = w := by have := h.2.2.1; omega
  funext k
  simp [CHr, h1, h2, h3]
theorem CHr_wp : pm_w (CHr I R w p nu L C) R 3 (nI k) = CHr I R w k nu L C := by
  funext q i
  rw [pm_w_app]
  unfold CHr
  by_cases h1 : q = R
  · by_cases h2 : i = 3
    · simp [h1, h2]
    · simp [h1, h2]
  · simp [h1]
theorem CHr_wn : pm_w (CHr I R w p nu L C) R 4 v = CHr I R w p v L C := by
  funext q i
  rw [pm_w_app]
  unfold CHr
  by_cases h1 : q = R
  · by_cases h2 : i = 4
    · simp [h1, h2]
    · simp [h1, h2]
  · simp [h1]
theorem CHr_wL (h : RD g I R w n) : pm_w (CHr I R w p nu L C) w 5 (nI k) = CHr I R w p nu k C := by
  have h0 : ¬ w = R := by have := h.2.1; have := h.2.2.1; omega
  funext q i
  rw [pm_w_app]
  unfold CHr
  by_cases h1 : q = w
  · subst h1
    by_cases h2 : i = 5
    · simp [h0, h2]
    · simp [h0, h2]
  · simp [h1]
theorem CHr_wC (h : RD g I R w n) : pm_w (CHr I R w p nu L C) (w + 4) k v = CHr I R w p nu L (upd C k v) := by
  have h0 : ¬ w + 4 = R := by have := h.2.1; have := h.2.2.1; omega
  funext q i
  rw [pm_w_app]
  unfold CHr
  simp only [upd_app]
  by_cases h1 : q = w + 4
  · subst h1
    by_cases h2 : i = k
    · simp [h0, h2]
    · simp [h0, h2]
  · simp [h1]
theorem RD_ba (h : RD g I R w n) (hp : p < n) : pm_ba (pm_S0 ++ g) (CHr I R w i nu L C) 25 (nI p) = some (I 25 p) := by
  have hn := h.2.2.2.2.2.2.2.2.1
  rw [sh_i_25, bad_nI (show p < 100 by omega) (by decide), nI_clamp (by omega), CHr_25 h]
  rfl
theorem K_R_isAt (h : RD g I R w n) (hp : p ≤ n) (hc : ¬ c = -1) : pm_cl X (d + 1) 105 [.ref R, .int c] (pm_S0 ++ g, CHr I R w p nu L C, J) P = if nxT (I 25) n p = c then P (some (.int 1), (pm_S0 ++ g, CHr I R w p nu L C, J)) else P (some (.int 0), (pm_S0 ++ g, CHr I R w p nu L C, J)) := by
  have hn := h.2.2.2.2.2.2.2.2.1
  have ho := h.2.2.2.2.1
  have h0 := h.2.2.2.2.2.1
  have A : ∀ (d' : Nat) (Q : pm_O → Prop), pm_V X d' 105 0 [some (.ref R), some (.int c)] [] (pm_S0 ++ g, CHr I R w p nu L C, J) Q = if nxT (I 25) n p = c then Q (some (.int 1), (pm_S0 ++ g, CHr I R w p nu L C, J)) else Q (some (.int 0), (pm_S0 ++ g, CHr I R w p nu L C, J)) := by
    intro d' Q
    unfold nxT
    by_cases q : p < n
    · have h1 : (nI n ≤ nI p) = False := by
        rw [nI_le_l (by omega) (by omega)]
        exact eq_false (by omega)
      rw [if_pos q]
      by_cases q2 : I 25 p = c
      · simp only [e_R_isAt_0, e_R_isAt_1, e_R_isAt_4, e_R_isAt_5, e_R_isAt_8, e_R_isAt_11, e_R_isAt_12, e_R_isAt_15, e_R_isAt_16, e_R_isAt_19, e_R_isAt_20, e_R_isAt_21, e_R_isAt_24, e_R_isAt_25, e_R_isAt_28, e_R_isAt_29, ho, h0, CHr_p, CHr_l h, h1, RD_ba h q, q2, pm_opt_some, pm_opt_none, pm_opt_if, Bool.false_eq_true, Bool.not_false, Bool.not_true, if_false, if_true, true_and, and_true, true_or, or_true, not_true_eq_false, not_false_eq_true, q10, q00, q01, q11, pk_v, pk_i, pk_l, pk_r]
      · simp only [e_R_isAt_0, e_R_isAt_1, e_R_isAt_4, e_R_isAt_5, e_R_isAt_8, e_R_isAt_11, e_R_isAt_12, e_R_isAt_15, e_R_isAt_16, e_R_isAt_19, e_R_isAt_20, e_R_isAt_21, e_R_isAt_24, e_R_isAt_25, e_R_isAt_28, e_R_isAt_29, ho, h0, CHr_p, CHr_l h, h1, RD_ba h q, q2, pm_opt_some, pm_opt_none, pm_opt_if, Bool.false_eq_true, Bool.not_false, Bool.not_true, if_false, if_true, true_and, and_true, true_or, or_true, not_true_eq_false, not_false_eq_true, q10, q00, q01, q11, pk_v, pk_i, pk_l, pk_r]
    · have h1 : (nI n ≤ nI p) = True := by
        rw [nI_le_l (by omega) (by omega)]
        exact eq_true (by omega)
      have h2 : ¬ (-1 : Int32) = c := fun z => hc z.symm
      rw [if_neg q, if_neg h2]
      simp only [e_R_isAt_0, e_R_isAt_1, e_R_isAt_4, e_R_isAt_5, e_R_isAt_8, e_R_isAt_12, e_R_isAt_15, e_R_isAt_16, e_R_isAt_19, e_R_isAt_20, e_R_isAt_21, e_R_isAt_24, e_R_isAt_25, e_R_isAt_28, e_R_isAt_29, ho, h0, CHr_p, CHr_l h, h1, pm_opt_some, pm_opt_none, pm_opt_if, Bool.false_eq_true, Bool.not_false, Bool.not_true, if_false, if_true, true_and, and_true, true_or, or_true, not_true_eq_false, not_false_eq_true, q10, q00, q01, q11, pk_v, pk_i, pk_l, pk_r]
  refine K_if (k := 0) (fun hq d' => ?_) (fun hq d' => ?_)
  · show pm_V X d' 105 0 [some (.ref R), some (.int c)] [] (pm_S0 ++ g, CHr I R w p nu L C, J) _
    rw [A, if_pos hq]
  · show pm_V X d' 105 0 [some (.ref R), some (.int c)] [] (pm_S0 ++ g, CHr I R w p nu L C, J) _
    rw [A, if_neg hq]
theorem nx_lt (h : ¬ nxT T n p = -1) : p < n := by
  unfold nxT at h
  by_cases q : p < n
  · exact q
  · rw [if_neg q] at h
    exact absurd rfl h
theorem K_R_take (h : RD g I R w n) (hp : p ≤ n) (hc : ¬ c = -1) : pm_cl X (d + 2) 104 [.ref R, .int c] (pm_S0 ++ g, CHr I R w p nu L C, J) P = if nxT (I 25) n p = c then P (some (.int 1), (pm_S0 ++ g, CHr I R w (p + 1) nu L C, J)) else P (some (.int 0), (pm_S0 ++ g, CHr I R w p nu L C, J)) := by
  have ho := h.2.2.2.2.1
  have hw : ∀ k, pm_w (CHr I R w p nu L C) R 3 (nI k) = CHr I R w k nu L C := fun k => CHr_wp
  refine K_if (k := 1) (fun hq d' => ?_) (fun hq d' => ?_)
  · show pm_V X (d' + 1) 104 0 [some (.ref R), some (.int c)] [] (pm_S0 ++ g, CHr I R w p nu L C, J) _
    simp only [e_R_take_0, e_R_take_1, e_R_take_2, e_R_take_5, e_R_take_8, e_R_take_9, e_R_take_10, e_R_take_11, e_R_take_12, e_R_take_15, e_R_take_16, e_R_take_17, e_R_take_20, e_R_take_21, ho, K_R_isAt h hp hc, hq, CHr_p, nI_1, hw, pm_opt_some, pm_opt_none, pm_opt_if, Bool.false_eq_true, Bool.not_false, Bool.not_true, if_false, if_true, true_and, and_true, true_or, or_true, not_true_eq_false, not_false_eq_true, q10, q00, q01, q11, pk_v, pk_i, pk_l, pk_r]
  · show pm_V X (d' + 1) 104 0 [some (.ref R), some (.int c)] [] (pm_S0 ++ g, CHr I R w p nu L C, J) _
    simp only [e_R_take_0, e_R_take_1, e_R_take_2, e_R_take_5, e_R_take_8, e_R_take_9, e_R_take_10, e_R_take_11, e_R_take_12, e_R_take_15, e_R_take_16, e_R_take_17, e_R_take_20, e_R_take_21, ho, K_R_isAt h hp hc, hq, pm_opt_some, pm_opt_none, pm_opt_if, Bool.false_eq_true, Bool.not_false, Bool.not_true, if_false, if_true, true_and, and_true, true_or, or_true, not_true_eq_false, not_false_eq_true, q10, q00, q01, q11, pk_v, pk_i, pk_l, pk_r]
theorem by_all : ∀ m, m < 256 → (0 ≤ (((Int8.ofNat m).toInt32 &&& 255).toUInt32 % 65536).toInt32 ∧ (((Int8.ofNat m).toInt32 &&& 255).toUInt32 % 65536).toInt32 ≤ 255) ∧ (((Int8.ofNat m).toInt32 &&& 255).toUInt32 % 65536).toInt32.toInt8.toInt32 = (Int8.ofNat m).toInt32 := by decide +kernel
theorem by_ch (h : x.toInt8.toInt32 = x) : (0 ≤ ((x &&& 255).toUInt32 % 65536).toInt32 ∧ ((x &&& 255).toUInt32 % 65536).toInt32 ≤ 255) ∧ ((x &&& 255).toUInt32 % 65536).toInt32.toInt8.toInt32 = x := by
  have e : x.toInt8 = Int8.ofNat x.toInt8.toBitVec.toNat := by
    refine Int8.toBitVec_inj.mp (BitVec.eq_of_toNat_eq ?_)
    show _ = x.toInt8.toBitVec.toNat % 2 ^ 8
    rw [Nat.mod_eq_of_lt x.toInt8.toBitVec.isLt]
  have := by_all x.toInt8.toBitVec.toNat x.toInt8.toBitVec.isLt
  rw [← e, h] at this
  exact this
theorem ixL_or : ∀ (t : List Nat) (c : Int32) (i : Nat), ixL t c i = -1 ∨ ∃ k, k < t.length ∧ ixL t c i = nI (i + k) ∧ c = nI (t.getD k 0) := by
  intro t
  induction t with
  | nil => intro c i; exact Or.inl rfl
  | cons x t ih =>
    intro c i
    rw [ixL]
    by_cases q : nI x = c
    · rw [if_pos q]
      exact Or.inr ⟨0, Nat.succ_pos _, rfl, q.symm⟩
    · rw [if_neg q]
      rcases ih c (i + 1) with h | ⟨k, h1, h2, h3⟩
      · exact Or.inl h
      · exact Or.inr ⟨k + 1, Nat.succ_lt_succ h1, by rw [h2, show i + 1 + k = i + (k + 1) by omega], h3⟩
theorem ixL_m (h : isT a t) : ixL t (-1) 0 = -1 := by
  rcases ixL_or t (-1) 0 with q | ⟨k, h1, h2, h3⟩
  · exact q
  · have := h.2.2.2.2.2 k h1
    exfalso
    rw [i_eq, nI_toInt (by omega), show (-1 : Int32).toInt = -1 from rfl] at h3
    omega
theorem K_R_takeOneOf (h : RD g I R w n) (ht : isT a t) (hp : p ≤ n) : pm_cl X (d + 9) 103 [.ref R, .ref a] (pm_S0 ++ g, CHr I R w p nu L C, J) P = P (some (.int (ixL t (nxT (I 25) n p) 0)), (pm_S0 ++ g, CHr I R w (if 0 ≤ ixL t (nxT (I 25) n p) 0 then p + 1 else p) nu L C, J)) := by
  have hn := h.2.2.2.2.2.2.2.2.1
  have ho := h.2.2.2.2.1
  have h0 := h.2.2.2.2.2.1
  have hw : ∀ k, pm_w (CHr I R w p nu L C) R 3 (nI k) = CHr I R w k nu L C := fun k => CHr_wp
  refine K_of (k := 8) (fun d' => ?_)
  show pm_V X (d' + 8) 103 0 [some (.ref R), some (.ref a), none] [] (pm_S0 ++ g, CHr I R w p nu L C, J) _
  unfold nxT
  by_cases q : p < n
  · have h1 : (nI p < nI n) = True := eq_true (nI_lt q (by omega))
    have hb := by_ch (h.2.2.2.2.2.2.2.2.2 p)
    have ki := fun (d : Nat) (P : pm_O → Prop) => K_S_indexOf (X := X) (d := d) (P := P) (I := CHr I R w p nu L C) (J := J) h.1 ht hb.1
    rw [hb.2] at ki
    have t1 := is_t ht
    rw [if_pos q]
    generalize ixL t (I 25 p) 0 = z at ki ⊢
    by_cases q2 : z < 0
    · have q3 : ¬ 0 ≤ z := Int32.not_le.mpr q2
      simp only [e_R_takeOneOf_0, e_R_takeOneOf_1, e_R_takeOneOf_4, e_R_takeOneOf_5, e_R_takeOneOf_8, e_R_takeOneOf_11, e_R_takeOneOf_12, e_R_takeOneOf_13, e_R_takeOneOf_14, e_R_takeOneOf_15, e_R_takeOneOf_18, e_R_takeOneOf_19, e_R_takeOneOf_22, e_R_takeOneOf_23, e_R_takeOneOf_26, e_R_takeOneOf_27, e_R_takeOneOf_28, e_R_takeOneOf_31, e_R_takeOneOf_32, e_R_takeOneOf_33, e_R_takeOneOf_36, e_R_takeOneOf_37, e_R_takeOneOf_38, e_R_takeOneOf_41, e_R_takeOneOf_42, e_R_takeOneOf_43, e_R_takeOneOf_46, e_R_takeOneOf_47, ho, h0, CHr_p, CHr_l h, h1, RD_ba h q, t1, ki, q2, q3, pm_opt_some, pm_opt_none, pm_opt_if, Bool.false_eq_true, Bool.not_false, Bool.not_true, if_false, if_true, true_and, and_true, true_or, or_true, not_true_eq_false, not_false_eq_true, q10, q00, q01, q11, pk_v, pk_i, pk_l, pk_r]
    · have q3 : 0 ≤ z := Int32.not_lt.mp q2
      simp only [e_R_takeOneOf_0, e_R_takeOneOf_1, e_R_takeOneOf_4, e_R_takeOneOf_5, e_R_takeOneOf_8, e_R_takeOneOf_11, e_R_takeOneOf_12, e_R_takeOneOf_13, e_R_takeOneOf_14, e_R_takeOneOf_15, e_R_takeOneOf_18, e_R_takeOneOf_19, e_R_takeOneOf_22, e_R_takeOneOf_23, e_R_takeOneOf_26, e_R_takeOneOf_27, e_R_takeOneOf_28, e_R_takeOneOf_31, e_R_takeOneOf_32, e_R_takeOneOf_33, e_R_takeOneOf_36, e_R_takeOneOf_37, e_R_takeOneOf_38, e_R_takeOneOf_41, e_R_takeOneOf_42, e_R_takeOneOf_43, e_R_takeOneOf_46, e_R_takeOneOf_47, ho, h0, CHr_p, CHr_l h, h1, RD_ba h q, t1, ki, q2, q3, nI_1, hw, pm_opt_some, pm_opt_none, pm_opt_if, Bool.false_eq_true, Bool.not_false, Bool.not_true, if_false, if_true, true_and, and_true, true_or, or_true, not_true_eq_false, not_false_eq_true, q10, q00, q01, q11, pk_v, pk_i, pk_l, pk_r]
  · have h1 : (nI p < nI n) = False := eq_false (nI_nlt (by omega) (by omega))
    have z0 : ¬ (0 : Int32) ≤ -1 := by decide
    rw [if_neg q, ixL_m ht, if_neg z0]
    simp only [e_R_takeOneOf_0, e_R_takeOneOf_1, e_R_takeOneOf_4, e_R_takeOneOf_5, e_R_takeOneOf_8, e_R_takeOneOf_11, e_R_takeOneOf_12, e_R_takeOneOf_14, e_R_takeOneOf_15, e_R_takeOneOf_18, e_R_takeOneOf_19, e_R_takeOneOf_22, e_R_takeOneOf_23, e_R_takeOneOf_26, e_R_takeOneOf_27, e_R_takeOneOf_28, e_R_takeOneOf_31, e_R_takeOneOf_32, e_R_takeOneOf_33, e_R_takeOneOf_36, e_R_takeOneOf_37, e_R_takeOneOf_38, e_R_takeOneOf_41, e_R_takeOneOf_42, e_R_takeOneOf_43, e_R_takeOneOf_46, e_R_takeOneOf_47, ho, h0, CHr_p, CHr_l h, h1, pm_opt_some, pm_opt_none, pm_opt_if, Bool.false_eq_true, Bool.not_false, Bool.not_true, if_false, if_true, true_and, and_true, true_or, or_true, not_true_eq_false, not_false_eq_true, q10, q00, q01, q11, pk_v, pk_i, pk_l, pk_r]
theorem dg_or (c : Int32) : dgI c = -1 ∨ ∃ k, k < 10 ∧ dgI c = nI k ∧ dgN c = k ∧ c = nI (48 + k) := by
  rcases ixL_or dgL c 0 with h | ⟨k, h1, h2, h3⟩
  · exact Or.inl h
  · refine Or.inr ⟨k, h1, ?_, ?_, ?_⟩
    · unfold dgI
      rw [h2, Nat.zero_add]
    · unfold dgN dgI
      rw [h2, Nat.zero_add, nI_clamp (by have : k < 10 := h1; omega)]
    · rw [h3]
      have h1 : k < 10 := h1
      match k, h1 with
      | 0, _ => rfl
      | 1, _ => rfl
      | 2, _ => rfl
      | 3, _ => rfl
      | 4, _ => rfl
      | 5, _ => rfl
      | 6, _ => rfl
      | 7, _ => rfl
      | 8, _ => rfl
      | 9, _ => rfl
theorem K_R_takeNumber (h : RD g I R w n) (hp : p ≤ n) : pm_cl X (d + 10) 101 [.ref R] (pm_S0 ++ g, CHr I R w p nu L C, J) P = if 0 ≤ dgI (nxT (I 25) n p) then P (some (.int 1), (pm_S0 ++ g, CHr I R w (nuP (I 25) n p) (nI (nuV (I 25) n p)) L C, J)) else P (some (.int 0), (pm_S0 ++ g, CHr I R w p nu L C, J)) := by
  have ho := h.2.2.2.2.1
  have k1 := fun (d : Nat) (P : pm_O → Prop) (p : Nat) (hp : p ≤ n) => K_R_takeOneOf (X := X) (d := d) (P := P) (J := J) (nu := nu) (L := L) (C := C) h isT_14 hp
  have e1 : ∀ c, ixL [48, 49, 50, 51, 52, 53, 54, 55, 56, 57] c 0 = dgI c := fun c => rfl
  simp only [e1] at k1
  have hw : ∀ p v, pm_w (CHr I R w p nu L C) R 4 v = CHr I R w p v L C := fun p v => CHr_wn
  have m1 : ((-1 : Int32) < 0) = True := by decide
  have m2 : ((0 : Int32) ≤ -1) = False := by decide
  refine K_if (k := 9) (fun hq d' => ?_) (fun hq d' => ?_)
  · show pm_V X (d' + 9) 101 0 [some (.ref R), none, none] [] (pm_S0 ++ g, CHr I R w p nu L C, J) _
    have hpn : p < n := by
      refine nx_lt (T := I 25) (fun z => ?_)
      rw [z] at hq
      exact absurd hq (by rw [show dgI (-1) = -1 from ixL_m isT_14]; decide)
    rcases dg_or (nxT (I 25) n p) with z | ⟨k, hk, z1, z2, z3⟩
    · rw [z] at hq
      exact absurd hq (by decide)
    · have k0 : (nI k < 0) = False := eq_false (nI_pos (by omega))
      have k0' : ((0 : Int32) ≤ nI k) = True := eq_true (nI_pos' (by omega))
      unfold nuP nuV
      rw [z2]
      rcases dg_or (nxT (I 25) n (p + 1)) with y | ⟨k', hk', y1, y2, y3⟩
      · simp only [e_R_takeNumber_0, e_R_takeNumber_1, e_R_takeNumber_3, e_R_takeNumber_6, e_R_takeNumber_7, e_R_takeNumber_8, e_R_takeNumber_11, e_R_takeNumber_12, e_R_takeNumber_13, e_R_takeNumber_14, e_R_takeNumber_16, e_R_takeNumber_19, e_R_takeNumber_20, e_R_takeNumber_21, e_R_takeNumber_22, e_R_takeNumber_25, e_R_takeNumber_26, e_R_takeNumber_29, e_R_takeNumber_31, e_R_takeNumber_32, e_R_takeNumber_33, e_R_takeNumber_34, e_R_takeNumber_35, e_R_takeNumber_38, e_R_takeNumber_39, ho, k1 _ _ p hp, k1 _ _ (p + 1) (show p + 1 ≤ n by omega), z1, y, k0, k0', m1, m2, hw, pm_opt_some, pm_opt_none, pm_opt_if, Bool.false_eq_true, Bool.not_false, Bool.not_true, if_false, if_true, true_and, and_true, true_or, or_true, not_true_eq_false, not_false_eq_true, q10, q00, q01, q11, pk_v, pk_i, pk_l, pk_r]
      · have k2 : (nI k' < 0) = False := eq_false (nI_pos (by omega))
        have k2' : ((0 : Int32) ≤ nI k') = True := eq_true (nI_pos' (by omega))
        have mm : 10 * nI k = nI (10 * k) := pk_mul 10 k
        simp only [e_R_takeNumber_0, e_R_takeNumber_1, e_R_takeNumber_3, e_R_takeNumber_6, e_R_takeNumber_7, e_R_takeNumber_8, e_R_takeNumber_11, e_R_takeNumber_12, e_R_takeNumber_13, e_R_takeNumber_14, e_R_takeNumber_16, e_R_takeNumber_19, e_R_takeNumber_20, e_R_takeNumber_21, e_R_takeNumber_22, e_R_takeNumber_25, e_R_takeNumber_26, e_R_takeNumber_29, e_R_takeNumber_31, e_R_takeNumber_32, e_R_takeNumber_33, e_R_takeNumber_34, e_R_takeNumber_35, e_R_takeNumber_38, e_R_takeNumber_39, ho, k1 _ _ p hp, k1 _ _ (p + 1) (show p + 1 ≤ n by omega), z1, y1, y2, k0, k0', k2, k2', mm, nI_add, hw, pm_opt_some, pm_opt_none, pm_opt_if, Bool.false_eq_true, Bool.not_false, Bool.not_true, if_false, if_true, true_and, and_true, true_or, or_true, not_true_eq_false, not_false_eq_true, q10, q00, q01, q11, pk_v, pk_i, pk_l, pk_r]
  · show pm_V X (d' + 9) 101 0 [some (.ref R), none, none] [] (pm_S0 ++ g, CHr I R w p nu L C, J) _
    have hq' : dgI (nxT (I 25) n p) < 0 := Int32.not_le.mp hq
    simp only [e_R_takeNumber_0, e_R_takeNumber_1, e_R_takeNumber_3, e_R_takeNumber_6, e_R_takeNumber_7, e_R_takeNumber_8, e_R_takeNumber_11, e_R_takeNumber_12, e_R_takeNumber_14, e_R_takeNumber_16, e_R_takeNumber_19, e_R_takeNumber_20, e_R_takeNumber_21, e_R_takeNumber_22, e_R_takeNumber_25, e_R_takeNumber_26, e_R_takeNumber_29, e_R_takeNumber_31, e_R_takeNumber_32, e_R_takeNumber_33, e_R_takeNumber_34, e_R_takeNumber_35, e_R_takeNumber_38, e_R_takeNumber_39, ho, k1 _ _ p hp, hq, hq', pm_opt_some, pm_opt_none, pm_opt_if, Bool.false_eq_true, Bool.not_false, Bool.not_true, if_false, if_true, true_and, and_true, true_or, or_true, not_true_eq_false, not_false_eq_true, q10, q00, q01, q11, pk_v, pk_i, pk_l, pk_r]
theorem tk_le : ∀ (t : List Nat) (p : Nat), p ≤ n → (∀ x ∈ t, x < 128) → (tkS T n t p).2 ≤ n ∧ p ≤ (tkS T n t p).2 := by
  intro t
  induction t with
  | nil => intro p hp _; exact ⟨hp, Nat.le_refl _⟩
  | cons c t ih =>
    intro p hp ht
    rw [tkS]
    by_cases q : nxT T n p = nI c
    · rw [if_pos q]
      have hlt : p < n := nx_lt (fun z => by
        rw [z] at q
        have := ht c List.mem_cons_self
        rw [i_eq, nI_toInt (by omega), show (-1 : Int32).toInt = -1 from rfl] at q
        omega)
      have := ih (p + 1) (by omega) (fun x hx => ht x (List.mem_cons_of_mem _ hx))
      exact ⟨this.1, by omega⟩
    · rw [if_neg q]
      exact ⟨hp, Nat.le_refl _⟩
theorem nI_nm1 {m : Nat} (h : m < 128) : ¬ nI m = -1 := by
  intro z
  rw [i_eq, nI_toInt (by omega), show (-1 : Int32).toInt = -1 from rfl] at z
  omega
theorem R_wd_loop (h : RD g I R w n) (ht : isT a t) : ∀ (k i p : Nat), i + k = t.length → p ≤ n → ∀ (d : Nat) (Q : pm_O → Prop), pm_V X (d + 5) 102 2 [some (.ref R), some (.ref a), some (.int (nI i))] [] (pm_S0 ++ g, CHr I R w p nu L C, J) Q = Q (some (.int (if (tkS (I 25) n (t.drop i) p).1 = true then 1 else 0)), (pm_S0 ++ g, CHr I R w (tkS (I 25) n (t.drop i) p).2 nu L C, J)) := by
  have ho := h.2.2.2.2.1
  have hl := ht.2.2.2.2.1
  have t1 := is_t ht
  intro k
  induction k with
  | zero =>
    intro i p hi hp d Q
    obtain rfl : i = t.length := by omega
    rw [e_R_takeWord_2, List.drop_length]
    simp only [e_R_takeWord_0, e_R_takeWord_1, e_R_takeWord_3, e_R_takeWord_4, e_R_takeWord_7, e_R_takeWord_10, e_R_takeWord_11, e_R_takeWord_12, e_R_takeWord_13, e_R_takeWord_16, e_R_takeWord_19, e_R_takeWord_22, e_R_takeWord_23, e_R_takeWord_24, e_R_takeWord_27, e_R_takeWord_30, e_R_takeWord_31, t1, K_S_length h.1 ht, Int32.le_refl, tkS, pm_opt_some, pm_opt_none, pm_opt_if, Bool.false_eq_true, Bool.not_false, Bool.not_true, if_false, if_true, true_and, and_true, true_or, or_true, not_true_eq_false, not_false_eq_true, q10, q00, q01, q11, pk_v, pk_i, pk_l, pk_r]
  | succ k ih =>
    intro i p hi hp d Q
    have hlt : i < t.length := by omega
    have h1 : (nI t.length ≤ nI i) = False := by
      rw [nI_le_l (by omega) (by omega)]
      exact eq_false (by omega)
    have ed : t.drop i = t.getD i 0 :: t.drop (i + 1) := by
      rw [List.drop_eq_getElem_cons hlt, List.getD_eq_getElem?_getD, List.getElem?_eq_getElem hlt]
      rfl
    have hc := ht.2.2.2.2.2 i hlt
    rw [e_R_takeWord_2, ed, tkS]
    by_cases q : nxT (I 25) n p = nI (t.getD i 0)
    · have hpn : p < n := nx_lt (fun z => nI_nm1 hc (q.symm.trans z))
      simp only [e_R_takeWord_0, e_R_takeWord_1, e_R_takeWord_3, e_R_takeWord_4, e_R_takeWord_7, e_R_takeWord_10, e_R_takeWord_11, e_R_takeWord_12, e_R_takeWord_13, e_R_takeWord_16, e_R_takeWord_19, e_R_takeWord_22, e_R_takeWord_23, e_R_takeWord_24, e_R_takeWord_27, e_R_takeWord_30, e_R_takeWord_31, ho, t1, K_S_length h.1 ht, K_S_charAt h.1 ht hlt, h1, K_R_take h hp (nI_nm1 hc), q, nI_1, pm_opt_some, pm_opt_none, pm_opt_if, Bool.false_eq_true, Bool.not_false, Bool.not_true, if_false, if_true, true_and, and_true, true_or, or_true, not_true_eq_false, not_false_eq_true, q10, q00, q01, q11, pk_v, pk_i, pk_l, pk_r]
      rw [ih (i + 1) (p + 1) (by omega) (by omega)]
    · simp only [e_R_takeWord_0, e_R_takeWord_1, e_R_takeWord_3, e_R_takeWord_4, e_R_takeWord_7, e_R_takeWord_10, e_R_takeWord_11, e_R_takeWord_12, e_R_takeWord_13, e_R_takeWord_16, e_R_takeWord_19, e_R_takeWord_22, e_R_takeWord_23, e_R_takeWord_24, e_R_takeWord_27, e_R_takeWord_30, e_R_takeWord_31, ho, t1, K_S_length h.1 ht, K_S_charAt h.1 ht hlt, h1, K_R_take h hp (nI_nm1 hc), q, pm_opt_some, pm_opt_none, pm_opt_if, Bool.false_eq_true, Bool.not_false, Bool.not_true, if_false, if_true, true_and, and_true, true_or, or_true, not_true_eq_false, not_false_eq_true, q10, q00, q01, q11, pk_v, pk_i, pk_l, pk_r]
theorem K_R_takeWord (h : RD g I R w n) (ht : isT a t) (hp : p ≤ n) : pm_cl X (d + 6) 102 [.ref R, .ref a] (pm_S0 ++ g, CHr I R w p nu L C, J) P = P (some (.int (if (tkS (I 25) n t p).1 = true then 1 else 0)), (pm_S0 ++ g, CHr I R w (tkS (I 25) n t p).2 nu L C, J)) := by
  refine K_of (k := 5) (fun d' => ?_)
  have Lp := R_wd_loop (X := X) (J := J) (nu := nu) (L := L) (C := C) h ht t.length 0 p (by omega) hp d'
  rw [nI_0, List.drop_zero] at Lp
  show pm_V X (d' + 5) 102 0 [some (.ref R), some (.ref a), none] [] (pm_S0 ++ g, CHr I R w p nu L C, J) _
  simp only [e_R_takeWord_0, e_R_takeWord_1]
  rw [Lp]
theorem K_W_add (h : RD g I R w n) (hL : L < 100) : pm_cl X (d + 1) 77 [.ref w, .int v] (pm_S0 ++ g, CHr I R w p nu L C, J) P = P (none, (pm_S0 ++ g, CHr I R w p nu (L + 1) (upd C L v), J)) := by
  obtain ⟨w1, w2, w3, w4, w5, w6, w7, w8, w9⟩ := h.2.2.2.1
  have hb := bad_nI (k := L) (n := 100) hL (by decide)
  have hc := nI_clamp (n := L) (by omega)
  have h1 : (nI L < 100) = True := eq_true (nI_lt (b := 100) hL (by decide))
  have ok : pm_okw (pm_S0 ++ g) 1 (w + 4) (nI L) = true := by
    unfold pm_okw
    rw [w9]
    show ((1 : Nat) == 1 && !pm_bad (nI L) 100) = true
    rw [hb]
    rfl
  have f1 : ∀ C, CHr I R w p nu L C w 5 = nI L := fun C => CHr_L h
  have f2 : ∀ k v C, pm_w (CHr I R w p nu L C) (w + 4) k v = CHr I R w p nu L (upd C k v) := fun k v C => CHr_wC h
  have f3 : ∀ k C, pm_w (CHr I R w p nu L C) w 5 (nI k) = CHr I R w p nu k C := fun k C => CHr_wL h
  refine K_of (k := 0) (fun d' => ?_)
  show pm_V X d' 77 0 [some (.ref w), some (.int v)] [] (pm_S0 ++ g, CHr I R w p nu L C, J) _
  simp only [e_W_add_0, e_W_add_1, e_W_add_4, e_W_add_6, e_W_add_9, e_W_add_10, e_W_add_11, e_W_add_14, e_W_add_15, e_W_add_18, e_W_add_19, e_W_add_20, e_W_add_21, e_W_add_22, e_W_add_25, e_W_add_26, e_W_add_27, e_W_add_30, w1, w5, f1, h1, hc, ok, f2, nI_1, f3, pm_opt_some, pm_opt_none, pm_opt_if, Bool.false_eq_true, Bool.not_false, Bool.not_true, if_false, if_true, true_and, and_true, true_or, or_true, not_true_eq_false, not_false_eq_true, q10, q00, q01, q11, pk_v, pk_i, pk_l, pk_r]
end P71
