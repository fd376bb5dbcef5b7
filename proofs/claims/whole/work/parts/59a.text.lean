/-! the parser: constant texts -/
/-- the first of some numbers that is one -/
def ixL : List Nat → Int32 → Nat → Int32
  | [], _, _ => -1
  | x :: xs, c, i => if nI x = c then nI i else ixL xs c (i + 1)
section P70
variable {X : pm_X} {d : Nat} {P Q : pm_O → Prop} {g : List pm_S} {S : List pm_S} {I I' I1 : Nat → Nat → Int32} {J J' : Nat → Nat → Int64} {a i n k : Nat} {b c x y : Int32} {t : List Nat}
theorem out_no (hg : g.length ≤ 700) {a : Nat} (ha : 1000000 ≤ a) : (pm_S0 ++ g)[a]? = none := by
  refine List.getElem?_eq_none ?_
  rw [List.length_append, S0_len]
  omega
/-- a is one of the texts -/
def isT (a : Nat) (t : List Nat) : Prop := 1000010 ≤ a ∧ a < 1000020 ∧ pm_txt a = some t ∧ 0 < t.length ∧ t.length < 20 ∧ ∀ i, i < t.length → t.getD i 0 < 128
theorem isT_10 : isT 1000010 [102, 114, 111, 115, 116] := ⟨by decide, by decide, rfl, by decide, by decide, by decide⟩
theorem isT_11 : isT 1000011 [116, 104, 97, 119] := ⟨by decide, by decide, rfl, by decide, by decide, by decide⟩
theorem isT_12 : isT 1000012 [115, 110, 111, 119] := ⟨by decide, by decide, rfl, by decide, by decide, by decide⟩
theorem isT_13 : isT 1000013 [98, 101, 97, 114, 115] := ⟨by decide, by decide, rfl, by decide, by decide, by decide⟩
theorem isT_14 : isT 1000014 [48, 49, 50, 51, 52, 53, 54, 55, 56, 57] := ⟨by decide, by decide, rfl, by decide, by decide, by decide⟩
theorem isT_15 : isT 1000015 [104, 100, 119] := ⟨by decide, by decide, rfl, by decide, by decide, by decide⟩
theorem isT_16 : isT 1000016 [60, 61, 62] := ⟨by decide, by decide, rfl, by decide, by decide, by decide⟩
theorem isT_b (h : isT a t) : pm_byt (a + 20) = some t := by
  unfold pm_byt
  rw [if_pos (by have := h.1; omega), Nat.add_sub_cancel]
  exact h.2.2.1
theorem isT_o (h : isT a t) : pm_out X (a + 20) = none := by
  have := h.1
  unfold pm_out
  rw [if_neg (by omega), if_neg (by omega), if_neg (by omega)]
theorem len_t (hg : g.length ≤ 700) (h : isT a t) : pm_len X (pm_S0 ++ g) (a + 20) = some (nI t.length) := by
  have := h.1
  unfold pm_len
  rw [out_no hg (by omega)]
  simp only [isT_o h, isT_b h]
  rfl
theorem ba_t (hg : g.length ≤ 700) (h : isT a t) (hi : i < t.length) : pm_ba (pm_S0 ++ g) I (a + 20) (nI i) = some (nI (t.getD i 0)) := by
  have := h.1
  have h20 := h.2.2.2.2.1
  unfold pm_ba
  rw [out_no hg (by omega)]
  simp only [isT_b h]
  rw [bad_nI hi (by omega), nI_clamp (by omega)]
  rfl
theorem is_t (h : isT a t) : (pm_txt a).isSome = true := by rw [h.2.2.1]; rfl
theorem K_S_isLatin1 (h : isT a t) : pm_cl X (d + 1) 196 [.ref a] (S, I, J) P = P (some (.int 1), (S, I, J)) := by
  have h1 := h.2.2.1
  refine K_of (k := 0) (fun d' => ?_)
  show pm_V X d' 196 0 [some (.ref a)] [] (S, I, J) _
  simp only [e_S_isLatin1_0, e_S_isLatin1_3, e_S_isLatin1_6, e_S_isLatin1_7, e_S_isLatin1_10, e_S_isLatin1_13, e_S_isLatin1_14, e_S_isLatin1_17, e_S_isLatin1_18, h1, pm_opt_some, pm_opt_none, pm_opt_if, Bool.false_eq_true, Bool.not_false, Bool.not_true, if_false, if_true, true_and, and_true, true_or, or_true, not_true_eq_false, not_false_eq_true, q10, q00, q01, q11, pk_v, pk_i, pk_l, pk_r]
theorem K_S_coder (h : isT a t) : pm_cl X (d + 1) 194 [.ref a] (S, I, J) P = P (some (.int 0), (S, I, J)) := by
  have h1 := h.2.2.1
  refine K_of (k := 0) (fun d' => ?_)
  show pm_V X d' 194 0 [some (.ref a)] [] (S, I, J) _
  simp only [e_S_coder_0, e_S_coder_3, e_S_coder_6, e_S_coder_7, e_S_coder_10, e_S_coder_13, e_S_coder_14, h1, pm_opt_some, pm_opt_none, pm_opt_if, Bool.false_eq_true, Bool.not_false, Bool.not_true, if_false, if_true, true_and, and_true, true_or, or_true, not_true_eq_false, not_false_eq_true, q10, q00, q01, q11, pk_v, pk_i, pk_l, pk_r]
theorem shr_0 : x >>> ((0 : Int32) &&& 31) = x := Int32.toBitVec_inj.mp (by
  show x.toBitVec.sshiftRight 0 = x.toBitVec
  exact BitVec.sshiftRight_zero)
theorem K_S_length (hg : g.length ≤ 700) (h : isT a t) : pm_cl X (d + 2) 193 [.ref a] (pm_S0 ++ g, I, J) P = P (some (.int (nI t.length)), (pm_S0 ++ g, I, J)) := by
  have h1 := h.2.2.1
  have h2 := is_t h
  refine K_of (k := 1) (fun d' => ?_)
  show pm_V X (d' + 1) 193 0 [some (.ref a)] [] (pm_S0 ++ g, I, J) _
  simp only [e_S_length_0, e_S_length_1, e_S_length_4, e_S_length_5, e_S_length_6, e_S_length_9, e_S_length_10, h1, h2, len_t hg h, K_S_coder h, shr_0, Option.isSome_some, pm_opt_some, pm_opt_none, pm_opt_if, Bool.false_eq_true, Bool.not_false, Bool.not_true, if_false, if_true, true_and, and_true, true_or, or_true, not_true_eq_false, not_false_eq_true, q10, q00, q01, q11, pk_v, pk_i, pk_l, pk_r]
theorem K_C_checkIndex {v : Value} (h0 : ¬ x < 0) (h1 : x < y) (hv : pm_args [.int x, .int y, v] = [some (.int x), some (.int y), some v]) : pm_cl X (d + 1) 204 [.int x, .int y, v] (S, I, J) P = P (some (.int x), (S, I, J)) := by
  refine K_of (k := 0) (fun d' => ?_)
  have e : pm_ent (pm_ml 204) [.int x, .int y, v] = [some (.int x), some (.int y), some v] := by
    unfold pm_ent
    rw [hv]
    rfl
  rw [e]
  simp only [e_C_checkIndex_0, e_C_checkIndex_1, e_C_checkIndex_4, e_C_checkIndex_5, e_C_checkIndex_6, e_C_checkIndex_16, e_C_checkIndex_17, h0, h1, pm_opt_some, pm_opt_none, pm_opt_if, Bool.false_eq_true, Bool.not_false, Bool.not_true, if_false, if_true, true_and, and_true, true_or, or_true, not_true_eq_false, not_false_eq_true, q10, q00, q01, q11, pk_v, pk_i, pk_l, pk_r]
theorem e_ck_n : pm_V X d 197 5 [some (.int x), some (.int y)] [.null, .int y, .int x] (S, I, J) Q = pm_cl X d 204 [.int x, .int y, .null] (S, I, J) (pm_k X d 197 8 [some (.int x), some (.int y)] [] S.length Q) := pv_callS (mj := 204) (st := [.null, .int y, .int x]) (as := [.int x, .int y, .null]) (rest := []) rfl rfl rfl (Nat.le_of_ble_eq_true rfl) (Nat.le_of_ble_eq_true rfl)
theorem e_ck_r : pm_V X d 197 5 [some (.int x), some (.int y)] [.ref a, .int y, .int x] (S, I, J) Q = pm_cl X d 204 [.int x, .int y, .ref a] (S, I, J) (pm_k X d 197 8 [some (.int x), some (.int y)] [] S.length Q) := pv_callS (mj := 204) (st := [.ref a, .int y, .int x]) (as := [.int x, .int y, .ref a]) (rest := []) rfl rfl rfl (Nat.le_of_ble_eq_true rfl) (Nat.le_of_ble_eq_true rfl)
theorem K_S_checkIndex (h0 : ¬ x < 0) (h1 : x < y) : pm_cl X (d + 2) 197 [.int x, .int y] (S, I, J) P = P (none, (S, I, J)) := by
  have hg : pm_gs X 3 = .null ∨ pm_gs X 3 = .ref 1000060 := by
    show (if X.2.2 = true then Value.null else .ref 1000060) = .null ∨ (if X.2.2 = true then Value.null else .ref 1000060) = .ref 1000060
    cases X.2.2 with
    | true => exact Or.inl rfl
    | false => exact Or.inr rfl
  refine K_of (k := 1) (fun d' => ?_)
  show pm_V X (d' + 1) 197 0 [some (.int x), some (.int y)] [] (S, I, J) _
  simp only [e_S_checkIndex_0, e_S_checkIndex_1, e_S_checkIndex_2]
  rcases hg with e | e
  · rw [e, e_ck_n, K_C_checkIndex h0 h1 rfl]
    simp only [e_S_checkIndex_8, e_S_checkIndex_9, pm_opt_some, pm_opt_none, pm_opt_if, Bool.false_eq_true, Bool.not_false, Bool.not_true, if_false, if_true, true_and, and_true, true_or, or_true, not_true_eq_false, not_false_eq_true, q10, q00, q01, q11, pk_v, pk_i, pk_l, pk_r]
  · rw [e, e_ck_r, K_C_checkIndex h0 h1 rfl]
    simp only [e_S_checkIndex_8, e_S_checkIndex_9, pm_opt_some, pm_opt_none, pm_opt_if, Bool.false_eq_true, Bool.not_false, Bool.not_true, if_false, if_true, true_and, and_true, true_or, or_true, not_true_eq_false, not_false_eq_true, q10, q00, q01, q11, pk_v, pk_i, pk_l, pk_r]
theorem asc_all : ∀ c, c < 128 → (nI c &&& 255 = nI c ∧ ((nI c).toUInt32 % 65536).toInt32 = nI c) := by decide +kernel
theorem K_Y_charAt (hg : g.length ≤ 700) (h : isT a t) (hi : i < t.length) : pm_cl X (d + 3) 200 [.ref (a + 20), .int (nI i)] (pm_S0 ++ g, I, J) P = P (some (.int (nI (t.getD i 0))), (pm_S0 ++ g, I, J)) := by
  have hc := asc_all _ (h.2.2.2.2.2 i hi)
  have hl := h.2.2.2.2.1
  refine K_of (k := 2) (fun d' => ?_)
  have h0 : ¬ nI i < 0 := nI_pos (by omega)
  have h1 : nI i < nI t.length := nI_lt hi (by omega)
  show pm_V X (d' + 2) 200 0 [some (.ref (a + 20)), some (.int (nI i))] [] (pm_S0 ++ g, I, J) _
  simp only [e_Y_charAt_0, e_Y_charAt_1, e_Y_charAt_2, e_Y_charAt_3, e_Y_charAt_6, e_Y_charAt_7, e_Y_charAt_8, e_Y_charAt_9, e_Y_charAt_12, e_Y_charAt_13, len_t hg h, K_S_checkIndex h0 h1, ba_t hg h hi, hc.1, hc.2, pm_opt_some, pm_opt_none, pm_opt_if, Bool.false_eq_true, Bool.not_false, Bool.not_true, if_false, if_true, true_and, and_true, true_or, or_true, not_true_eq_false, not_false_eq_true, q10, q00, q01, q11, pk_v, pk_i, pk_l, pk_r]
  rw [e_Y_charAt_14 hc.2.symm]
theorem K_S_charAt (hg : g.length ≤ 700) (h : isT a t) (hi : i < t.length) : pm_cl X (d + 4) 195 [.ref a, .int (nI i)] (pm_S0 ++ g, I, J) P = P (some (.int (nI (t.getD i 0))), (pm_S0 ++ g, I, J)) := by
  have hc := asc_all _ (h.2.2.2.2.2 i hi)
  have h1 := h.2.2.1
  have h2 := is_t h
  refine K_of (k := 3) (fun d' => ?_)
  show pm_V X (d' + 3) 195 0 [some (.ref a), some (.int (nI i))] [] (pm_S0 ++ g, I, J) _
  simp only [e_S_charAt_0, e_S_charAt_1, e_S_charAt_4, e_S_charAt_7, e_S_charAt_8, e_S_charAt_11, e_S_charAt_12, e_S_charAt_16, e_S_charAt_17, e_S_charAt_20, h1, Option.isSome_some, K_S_isLatin1 h, K_Y_charAt hg h hi, pm_opt_some, pm_opt_none, pm_opt_if, Bool.false_eq_true, Bool.not_false, Bool.not_true, if_false, if_true, true_and, and_true, true_or, or_true, not_true_eq_false, not_false_eq_true, q10, q00, q01, q11, pk_v, pk_i, pk_l, pk_r]
  rw [e_S_charAt_15 hc.2.symm]
theorem Y_ix_loop (hg : g.length ≤ 700) (h : isT a t) : ∀ (k i : Nat), i + k = t.length → ∀ (d : Nat) (Q : pm_O → Prop), pm_V X d 203 7 [some (.ref (a + 20)), some (.int b), some (.int 0), some (.int (nI t.length)), some (.int c), some (.int (nI i))] [] (pm_S0 ++ g, I, J) Q = Q (some (.int (ixL (t.drop i) c i)), (pm_S0 ++ g, I, J)) := by
  have hl := h.2.2.2.2.1
  intro k
  induction k with
  | zero =>
    intro i hi d Q
    obtain rfl : i = t.length := by omega
    rw [e_Y_indexOfChar_7, List.drop_length]
    simp only [e_Y_indexOfChar_0, e_Y_indexOfChar_1, e_Y_indexOfChar_2, e_Y_indexOfChar_4, e_Y_indexOfChar_5, e_Y_indexOfChar_9, e_Y_indexOfChar_10, e_Y_indexOfChar_13, e_Y_indexOfChar_14, e_Y_indexOfChar_16, e_Y_indexOfChar_17, e_Y_indexOfChar_19, e_Y_indexOfChar_22, e_Y_indexOfChar_24, e_Y_indexOfChar_25, e_Y_indexOfChar_28, e_Y_indexOfChar_31, e_Y_indexOfChar_32, Int32.le_refl, ixL, pm_opt_some, pm_opt_none, pm_opt_if, Bool.false_eq_true, Bool.not_false, Bool.not_true, if_false, if_true, true_and, and_true, true_or, or_true, not_true_eq_false, not_false_eq_true, q10, q00, q01, q11, pk_v, pk_i, pk_l, pk_r]
  | succ k ih =>
    intro i hi d Q
    have hlt : i < t.length := by omega
    have h1 : (nI t.length ≤ nI i) = False := by
      rw [nI_le_l (by omega) (by omega)]
      exact eq_false (by omega)
    have ed : t.drop i = t.getD i 0 :: t.drop (i + 1) := by
      rw [List.drop_eq_getElem_cons hlt, List.getD_eq_getElem?_getD, List.getElem?_eq_getElem hlt]
      rfl
    rw [e_Y_indexOfChar_7, ed, ixL]
    by_cases q : nI (t.getD i 0) = c
    · simp only [e_Y_indexOfChar_0, e_Y_indexOfChar_1, e_Y_indexOfChar_2, e_Y_indexOfChar_4, e_Y_indexOfChar_5, e_Y_indexOfChar_9, e_Y_indexOfChar_10, e_Y_indexOfChar_13, e_Y_indexOfChar_14, e_Y_indexOfChar_16, e_Y_indexOfChar_17, e_Y_indexOfChar_19, e_Y_indexOfChar_22, e_Y_indexOfChar_24, e_Y_indexOfChar_25, e_Y_indexOfChar_28, e_Y_indexOfChar_31, e_Y_indexOfChar_32, h1, ba_t hg h hlt, q, pm_opt_some, pm_opt_none, pm_opt_if, Bool.false_eq_true, Bool.not_false, Bool.not_true, if_false, if_true, true_and, and_true, true_or, or_true, not_true_eq_false, not_false_eq_true, q10, q00, q01, q11, pk_v, pk_i, pk_l, pk_r]
    · simp only [e_Y_indexOfChar_0, e_Y_indexOfChar_1, e_Y_indexOfChar_2, e_Y_indexOfChar_4, e_Y_indexOfChar_5, e_Y_indexOfChar_9, e_Y_indexOfChar_10, e_Y_indexOfChar_13, e_Y_indexOfChar_14, e_Y_indexOfChar_16, e_Y_indexOfChar_17, e_Y_indexOfChar_19, e_Y_indexOfChar_22, e_Y_indexOfChar_24, e_Y_indexOfChar_25, e_Y_indexOfChar_28, e_Y_indexOfChar_31, e_Y_indexOfChar_32, h1, ba_t hg h hlt, q, nI_1, pm_opt_some, pm_opt_none, pm_opt_if, Bool.false_eq_true, Bool.not_false, Bool.not_true, if_false, if_true, true_and, and_true, true_or, or_true, not_true_eq_false, not_false_eq_true, q10, q00, q01, q11, pk_v, pk_i, pk_l, pk_r]
      rw [ih (i + 1) (by omega)]
/-- the place of a sign (of a byte) in a text -/
theorem K_S_indexOf (hg : g.length ≤ 700) (h : isT a t) (hx : 0 ≤ x ∧ x ≤ 255) : pm_cl X (d + 7) 198 [.ref a, .int x] (pm_S0 ++ g, I, J) P = P (some (.int (ixL t x.toInt8.toInt32 0)), (pm_S0 ++ g, I, J)) := by
  have h1 := h.2.2.1
  have hl := h.2.2.2.2.1
  have x0 : ¬ x < 0 := Int32.not_lt.mpr hx.1
  have x1 : ¬ 255 < x := Int32.not_lt.mpr hx.2
  have ce : ∀ (d : Nat) (P : pm_O → Prop), pm_cl X (d + 1) 201 [.int x] (pm_S0 ++ g, I, J) P = P (some (.int 1), (pm_S0 ++ g, I, J)) := by
    intro d P
    refine K_of (k := 0) (fun d' => ?_)
    show pm_V X d' 201 0 [some (.int x)] [] (pm_S0 ++ g, I, J) _
    simp only [e_Y_canEncode_0, e_Y_canEncode_1, e_Y_canEncode_4, e_Y_canEncode_5, e_Y_canEncode_8, e_Y_canEncode_11, e_Y_canEncode_12, e_Y_canEncode_15, e_Y_canEncode_16, x0, x1, pm_opt_some, pm_opt_none, pm_opt_if, Bool.false_eq_true, Bool.not_false, Bool.not_true, if_false, if_true, true_and, and_true, true_or, or_true, not_true_eq_false, not_false_eq_true, q10, q00, q01, q11, pk_v, pk_i, pk_l, pk_r]
  have ic : ∀ (d : Nat) (P : pm_O → Prop), pm_cl X (d + 1) 203 [.ref (a + 20), .int x, .int 0, .int (nI t.length)] (pm_S0 ++ g, I, J) P = P (some (.int (ixL t x.toInt8.toInt32 0)), (pm_S0 ++ g, I, J)) := by
    intro d P
    refine K_of (k := 0) (fun d' => ?_)
    have L := fun (Q : pm_O → Prop) => Y_ix_loop (X := X) (I := I) (J := J) (b := x) (c := x.toInt8.toInt32) hg h t.length 0 (by omega) d' Q
    rw [nI_0, List.drop_zero] at L
    show pm_V X d' 203 0 [some (.ref (a + 20)), some (.int x), some (.int 0), some (.int (nI t.length)), none, none] [] (pm_S0 ++ g, I, J) _
    simp only [e_Y_indexOfChar_0, e_Y_indexOfChar_1, e_Y_indexOfChar_2, e_Y_indexOfChar_4, e_Y_indexOfChar_5, e_Y_indexOfChar_9, e_Y_indexOfChar_10, e_Y_indexOfChar_13, e_Y_indexOfChar_14, e_Y_indexOfChar_16, e_Y_indexOfChar_17, e_Y_indexOfChar_19, e_Y_indexOfChar_22, e_Y_indexOfChar_24, e_Y_indexOfChar_25, e_Y_indexOfChar_28, e_Y_indexOfChar_31, e_Y_indexOfChar_32]
    rw [L]
  have lt0 : (nI t.length ≤ 0) = False := eq_false (nI_nle h.2.2.2.1 (by omega))
  have lt1 : ((0 : Int32) < nI t.length) = True := eq_true (by rw [show (0 : Int32) = nI 0 from rfl]; exact nI_lt h.2.2.2.1 (by omega))
  have yi : ∀ (d : Nat) (P : pm_O → Prop), pm_cl X (d + 4) 202 [.ref (a + 20), .int x, .int 0, .int (nI t.length)] (pm_S0 ++ g, I, J) P = P (some (.int (ixL t x.toInt8.toInt32 0)), (pm_S0 ++ g, I, J)) := by
    intro d P
    refine K_of (k := 3) (fun d' => ?_)
    have hd : 2 ≤ d' + 3 := by omega
    have irr : (nI t.length < nI t.length) = False := eq_false Int32.lt_irrefl
    have irz : ((0 : Int32) < 0) = False := by decide
    show pm_V X (d' + 3) 202 0 [some (.ref (a + 20)), some (.int x), some (.int 0), some (.int (nI t.length))] [] (pm_S0 ++ g, I, J) _
    simp only [e_Y_indexOf_0, e_Y_indexOf_1, e_Y_indexOf_4, e_Y_indexOf_7, e_Y_indexOf_8, e_Y_indexOf_9, e_Y_indexOf_10, e_Y_indexOf_11, e_Y_indexOf_14, e_Y_indexOf_15, e_Y_indexOf_16, e_Y_indexOf_17, e_Y_indexOf_18, e_Y_indexOf_21, e_Y_indexOf_22, e_Y_indexOf_23, e_Y_indexOf_24, e_Y_indexOf_27, e_Y_indexOf_28, e_Y_indexOf_29, e_Y_indexOf_30, e_Y_indexOf_31, e_Y_indexOf_32, e_Y_indexOf_33, e_Y_indexOf_36, ce, hd, irz, irr, len_t hg h, lt0, lt1, ic, pm_opt_some, pm_opt_none, pm_opt_if, Bool.false_eq_true, Bool.not_false, Bool.not_true, if_false, if_true, true_and, and_true, true_or, or_true, not_true_eq_false, not_false_eq_true, q10, q00, q01, q11, pk_v, pk_i, pk_l, pk_r]
  have i2 : ∀ (d : Nat) (P : pm_O → Prop), pm_cl X (d + 5) 199 [.ref a, .int x, .int 0] (pm_S0 ++ g, I, J) P = P (some (.int (ixL t x.toInt8.toInt32 0)), (pm_S0 ++ g, I, J)) := by
    intro d P
    refine K_of (k := 4) (fun d' => ?_)
    show pm_V X (d' + 4) 199 0 [some (.ref a), some (.int x), some (.int 0)] [] (pm_S0 ++ g, I, J) _
    simp only [e_S_indexOf2_0, e_S_indexOf2_1, e_S_indexOf2_4, e_S_indexOf2_7, e_S_indexOf2_8, e_S_indexOf2_11, e_S_indexOf2_12, e_S_indexOf2_13, e_S_indexOf2_14, e_S_indexOf2_17, e_S_indexOf2_20, e_S_indexOf2_23, e_S_indexOf2_24, e_S_indexOf2_27, e_S_indexOf2_28, e_S_indexOf2_29, e_S_indexOf2_30, e_S_indexOf2_36, h1, Option.isSome_some, K_S_isLatin1 h, K_S_length hg h, yi, pm_opt_some, pm_opt_none, pm_opt_if, Bool.false_eq_true, Bool.not_false, Bool.not_true, if_false, if_true, true_and, and_true, true_or, or_true, not_true_eq_false, not_false_eq_true, q10, q00, q01, q11, pk_v, pk_i, pk_l, pk_r]
  refine K_of (k := 6) (fun d' => ?_)
  show pm_V X (d' + 6) 198 0 [some (.ref a), some (.int x)] [] (pm_S0 ++ g, I, J) _
  simp only [e_S_indexOf_0, e_S_indexOf_1, e_S_indexOf_2, e_S_indexOf_3, e_S_indexOf_6, h1, Option.isSome_some, i2, pm_opt_some, pm_opt_none, pm_opt_if, Bool.false_eq_true, Bool.not_false, Bool.not_true, if_false, if_true, true_and, and_true, true_or, or_true, not_true_eq_false, not_false_eq_true, q10, q00, q01, q11, pk_v, pk_i, pk_l, pk_r]
end P70
