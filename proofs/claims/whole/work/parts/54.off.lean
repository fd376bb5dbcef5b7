/-! pairs of calls: off, likely -/
def zT : Nat → T3 := fun _ => (0, 0, 0)
def absI (x : Int32) : Int32 := if 0 ≤ x then x else 0 - x
def ofK (I : Nat → Nat → Int32) (h : Nat) (T : Nat → T3) (k : Nat) : Int32 := if I 11 k = nI h then absI (thT (T (I 10 k).toNatClampNeg) - I 12 k) else 0
def ofT (I : Nat → Nat → Int32) (w h : Nat) : Nat → T3 := hrT I w 0 0 h zT
def ofB (I : Nat → Nat → Int32) (w n h : Nat) : Int32 := sumR (ofK I h (ofT I w h)) 0 n
def ofS (I : Nat → Nat → Int32) (w n : Nat) : Int32 := sumR (ofB I w n) 0 240
/-- HOLES -/
def hol (I : Nat → Nat → Int32) (n : Nat) : Prop := n ≤ 10 ∧ I 1 10 = nI n ∧ ∀ k, k < n → (∃ m, m < 16 ∧ I 10 k = nI m) ∧ (∃ m, m < 240 ∧ I 11 k = nI m) ∧ ∃ m, m < 1500 ∧ I 12 k = nI m
section P54
variable {X : pm_X} {d : Nat} {P Q : pm_O → Prop} {g : List pm_S} {S : List pm_S} {I I' I1 B : Nat → Nat → Int32} {J J' : Nat → Nat → Int64} {j w m n h : Nat} {c a b s l : Int32} {fi : Int32} {p : Nat → Int32} {T U : Nat → T3}
theorem Rel_hol (hR : Rel I J) : ∃ n, hol I n := by
  obtain ⟨n, h1, h2, h3⟩ := hR.2.2.2.1.2.2.2.2.2.2.1
  exact ⟨n, h1, h2, h3⟩
theorem wn_a (hj : j < 5) : pm_aa (pm_S0 ++ g) 31 (nI j) = some (.ref (45 + 5 * j)) := by
  rw [sh_i_31, bad_nI hj (by decide), nI_clamp (by omega)]
  match j, hj with
  | 0, _ => rfl
  | 1, _ => rfl
  | 2, _ => rfl
  | 3, _ => rfl
  | 4, _ => rfl
theorem absI_d (x : Int32) : (if 0 ≤ x then x else 0 - x) = absI x := rfl
theorem sumR_split {f : Nat → Int32} : ∀ (a b k : Nat), sumR f k (a + b) = sumR f k a + sumR f (k + a) b := by
  intro a
  induction a with
  | zero =>
    intro b k
    rw [Nat.zero_add, Nat.add_zero]
    show _ = 0 + _
    rw [Int32.zero_add]
  | succ a ih =>
    intro b k
    rw [show a + 1 + b = (a + b) + 1 by omega, sumR, sumR, ih, Int32.add_assoc, show k + 1 + a = k + (a + 1) by omega]
theorem sumR_bd {f : Nat → Int32} {M : Nat} : ∀ (n k : Nat), (∀ i, k ≤ i → i < k + n → 0 ≤ (f i).toInt ∧ (f i).toInt ≤ M) → n * M < 2147483648 → 0 ≤ (sumR f k n).toInt ∧ (sumR f k n).toInt ≤ (n * M : Nat) := by
  intro n
  induction n with
  | zero =>
    intro k _ _
    show 0 ≤ (0 : Int32).toInt ∧ (0 : Int32).toInt ≤ _
    rw [k0]
    omega
  | succ n ih =>
    intro k h hb
    rw [Nat.succ_mul] at hb ⊢
    have h1 := h k (Nat.le_refl _) (by omega)
    have h2 := ih (k + 1) (fun i a b => h i (by omega) (by omega)) (by omega)
    rw [sumR, i_add (by omega) (by omega)]
    omega
theorem thT_bd {t : T3} (h : T3ok t) : 0 ≤ (thT t).toInt ∧ (thT t).toInt ≤ 1498 := by
  obtain ⟨⟨a1, a2⟩, ⟨b1, b2⟩, _⟩ := h
  unfold thT
  have e : (t.2.1 / 2).toInt = t.2.1.toInt / 2 := by rw [i_div b1 (by rw [k2]; omega), k2]
  rw [i_add (by rw [e]; omega) (by rw [e]; omega), e]
  omega
theorem absI_eq {x y : Int32} (hx : 0 ≤ x.toInt ∧ x.toInt ≤ 1000000) (hy : 0 ≤ y.toInt ∧ y.toInt ≤ 1000000) : absI (x - y) = if x < y then y - x else x - y := by
  have e1 : (x - y).toInt = x.toInt - y.toInt := i_sub (by omega) (by omega)
  have e2 : (y - x).toInt = y.toInt - x.toInt := i_sub (by omega) (by omega)
  unfold absI
  by_cases q : x < y
  · have q1 : ¬ 0 ≤ x - y := by
      rw [i_le, e1, k0]
      rw [i_lt] at q
      omega
    rw [if_pos q, if_neg q1, i_eq, i_sub (by rw [e1, k0]; omega) (by rw [e1, k0]; omega), e1, e2, k0]
    omega
  · have q1 : 0 ≤ x - y := by
      rw [i_le, e1, k0]
      rw [i_lt] at q
      omega
    rw [if_neg q, if_pos q1]
theorem absI_bd {x y : Int32} (hx : 0 ≤ x.toInt ∧ x.toInt ≤ 1500) (hy : 0 ≤ y.toInt ∧ y.toInt ≤ 1500) : 0 ≤ (absI (x - y)).toInt ∧ (absI (x - y)).toInt ≤ 1500 := by
  rw [absI_eq (by omega) (by omega)]
  by_cases q : x < y
  · rw [if_pos q, i_sub (by omega) (by omega)]
    rw [i_lt] at q
    omega
  · rw [if_neg q, i_sub (by omega) (by omega)]
    rw [i_lt] at q
    omega
/-- ice that is gone -/
theorem K_I_vanish : pm_cl X (d + 3) 65 [.ref 35] (pm_S0 ++ g, upC I 36 37 38 T 16, J) P = P (none, (pm_S0 ++ g, upC I 36 37 38 zT 16, J)) := by
  refine K_of (k := 2) (fun d' => ?_)
  have L := fun (Q : pm_O → Prop) => pm_lp0 (fun k => pm_V X (d' + 2) 65 2 [some (.ref 35), some (.int (nI k))] [] (pm_S0 ++ g, upC (upC I 36 37 38 T 16) 36 37 38 zT k, J) Q) 16 (by
    intro k hk
    have h1 : ((16 : Int32) ≤ nI k) = False := by
      rw [show (16 : Int32) = nI 16 from rfl, nI_le_l (by omega) (by omega)]
      exact eq_false (by omega)
    have es := upC_s (I := upC I 36 37 38 T 16) (n := k) (f := zT) (a := 36) (b := 37) (c := 38) (by decide) (by decide) (by decide)
    have i3 := p3_id (I := upC (upC I 36 37 38 T 16) 36 37 38 zT k) (a := 36) (b := 37) (c := 38) (j := k) (by decide) (by decide) (by decide)
    show pm_V X (d' + 2) 65 2 [some (.ref 35), some (.int (nI k))] [] (pm_S0 ++ g, upC (upC I 36 37 38 T 16) 36 37 38 zT k, J) Q = _
    rw [← es, e_I_vanish_2, ← i3]
    simp only [e_I_vanish_0, e_I_vanish_1, e_I_vanish_3, e_I_vanish_5, e_I_vanish_8, e_I_vanish_9, e_I_vanish_10, e_I_vanish_13, e_I_vanish_16, e_I_vanish_19, h1, sh_o_35, K_I_vanishAt ice_ask hk, nI_1, pm_opt_some, pm_opt_none, pm_opt_if, Bool.false_eq_true, Bool.not_false, Bool.not_true, if_false, if_true, true_and, and_true, true_or, or_true, not_true_eq_false, not_false_eq_true, q10, q00, q01, q11, pk_v, pk_i, pk_l, pk_r]
    rw [i3]
    rfl) 16 0 (by omega)
  rw [upC_0, nI_0] at L
  have h16 : ((16 : Int32) ≤ nI 16) = True := by decide
  show pm_V X (d' + 2) 65 0 [some (.ref 35), none] [] (pm_S0 ++ g, upC I 36 37 38 T 16, J) _
  simp only [e_I_vanish_0, e_I_vanish_1, e_I_vanish_3, e_I_vanish_5, e_I_vanish_8, e_I_vanish_9, e_I_vanish_10, e_I_vanish_13, e_I_vanish_16, e_I_vanish_19]
  rw [L, e_I_vanish_2, upC_upC]
  simp only [e_I_vanish_0, e_I_vanish_1, e_I_vanish_3, e_I_vanish_5, e_I_vanish_8, e_I_vanish_9, e_I_vanish_10, e_I_vanish_13, e_I_vanish_16, e_I_vanish_19, h16, pm_opt_some, pm_opt_none, pm_opt_if, Bool.false_eq_true, Bool.not_false, Bool.not_true, if_false, if_true, true_and, and_true, true_or, or_true, not_true_eq_false, not_false_eq_true, q10, q00, q01, q11, pk_v, pk_i, pk_l, pk_r]
theorem K_B_offBehind (hh : hol I n) : pm_cl X (d + 4) 59 [.ref 0, .int (nI h)] (pm_S0 ++ g, upC I 36 37 38 T 16, J) P = P (some (.int (sumR (ofK I h T) 0 n)), (pm_S0 ++ g, upC I 36 37 38 T 16, J)) := by
  obtain ⟨hn, e10, hl⟩ := hh
  refine K_of (k := 3) (fun d' => ?_)
  have hd : 2 ≤ d' + 3 := by omega
  have rd : ∀ q, ¬ q = 36 → ¬ q = 37 → ¬ q = 38 → upC I 36 37 38 T 16 q = I q := fun q a b c => upC_at a b c
  have L := fun (Q : pm_O → Prop) => pm_lp (fun k (s : Int32) => pm_V X (d' + 3) 59 4 [some (.ref 0), some (.int (nI h)), some (.int s), some (.int (nI k))] [] (pm_S0 ++ g, upC I 36 37 38 T 16, J) Q) (fun k s => s + ofK I h T k) n (by
    intro k s hk
    obtain ⟨⟨m1, a1, b1⟩, ⟨m2, a2, b2⟩, m3, a3, b3⟩ := hl k hk
    have h1 : (nI n ≤ nI k) = False := by
      rw [nI_le_l (by omega) (by omega)]
      exact eq_false (by omega)
    have hb := bad_nI (k := k) (n := 10) (by omega) (by decide)
    have hc := nI_clamp (n := k) (by omega)
    have hcm := nI_clamp (n := m1) (by omega)
    show pm_V X (d' + 3) 59 4 [some (.ref 0), some (.int (nI h)), some (.int s), some (.int (nI k))] [] (pm_S0 ++ g, upC I 36 37 38 T 16, J) Q = _
    rw [e_B_offBehind_4]
    simp only [e_B_offBehind_0, e_B_offBehind_1, e_B_offBehind_2, e_B_offBehind_3, e_B_offBehind_5, e_B_offBehind_6, e_B_offBehind_9, e_B_offBehind_12, e_B_offBehind_15, e_B_offBehind_16, e_B_offBehind_19, e_B_offBehind_22, e_B_offBehind_23, e_B_offBehind_24, e_B_offBehind_25, e_B_offBehind_28, e_B_offBehind_29, e_B_offBehind_30, e_B_offBehind_33, e_B_offBehind_34, e_B_offBehind_37, e_B_offBehind_40, e_B_offBehind_41, e_B_offBehind_42, e_B_offBehind_45, e_B_offBehind_46, e_B_offBehind_49, e_B_offBehind_52, e_B_offBehind_53, e_B_offBehind_54, e_B_offBehind_55, e_B_offBehind_58, e_B_offBehind_59, e_B_offBehind_60, e_B_offBehind_63, e_B_offBehind_66, e_B_offBehind_67, sh_o_1, sh_o_35, sh_r_0_0, sh_r_0_10, sh_r_1_7, sh_r_1_8, sh_r_1_9, sh_i_10, sh_i_11, sh_i_12, rd 1 (by decide) (by decide) (by decide), rd 10 (by decide) (by decide) (by decide), rd 11 (by decide) (by decide) (by decide), rd 12 (by decide) (by decide) (by decide), e10, h1, hb, hc, b1, K_ask a1, hd, absI_d, nI_1, pm_opt_some, pm_opt_none, pm_opt_if, Bool.false_eq_true, Bool.not_false, Bool.not_true, if_false, if_true, true_and, and_true, true_or, or_true, not_true_eq_false, not_false_eq_true, q10, q00, q01, q11, pk_v, pk_i, pk_l, pk_r]
    unfold ofK
    rw [b1, hcm]
    by_cases q : I 11 k = nI h
    · simp only [q, pm_opt_some, pm_opt_none, pm_opt_if, Bool.false_eq_true, Bool.not_false, Bool.not_true, if_false, if_true, true_and, and_true, true_or, or_true, not_true_eq_false, not_false_eq_true, q10, q00, q01, q11, pk_v, pk_i, pk_l, pk_r]
    · simp only [q, Int32.add_zero, pm_opt_some, pm_opt_none, pm_opt_if, Bool.false_eq_true, Bool.not_false, Bool.not_true, if_false, if_true, true_and, and_true, true_or, or_true, not_true_eq_false, not_false_eq_true, q10, q00, q01, q11, pk_v, pk_i, pk_l, pk_r]) n 0 0 (by omega)
  rw [sumR_0, nI_0] at L
  show pm_V X (d' + 3) 59 0 [some (.ref 0), some (.int (nI h)), none, none] [] (pm_S0 ++ g, upC I 36 37 38 T 16, J) _
  simp only [e_B_offBehind_0, e_B_offBehind_1, e_B_offBehind_2, e_B_offBehind_3, e_B_offBehind_5, e_B_offBehind_6, e_B_offBehind_9, e_B_offBehind_12, e_B_offBehind_15, e_B_offBehind_16, e_B_offBehind_19, e_B_offBehind_22, e_B_offBehind_23, e_B_offBehind_24, e_B_offBehind_25, e_B_offBehind_28, e_B_offBehind_29, e_B_offBehind_30, e_B_offBehind_33, e_B_offBehind_34, e_B_offBehind_37, e_B_offBehind_40, e_B_offBehind_41, e_B_offBehind_42, e_B_offBehind_45, e_B_offBehind_46, e_B_offBehind_49, e_B_offBehind_52, e_B_offBehind_53, e_B_offBehind_54, e_B_offBehind_55, e_B_offBehind_58, e_B_offBehind_59, e_B_offBehind_60, e_B_offBehind_63, e_B_offBehind_66, e_B_offBehind_67]
  rw [L, e_B_offBehind_4]
  simp only [e_B_offBehind_0, e_B_offBehind_1, e_B_offBehind_2, e_B_offBehind_3, e_B_offBehind_5, e_B_offBehind_6, e_B_offBehind_9, e_B_offBehind_12, e_B_offBehind_15, e_B_offBehind_16, e_B_offBehind_19, e_B_offBehind_22, e_B_offBehind_23, e_B_offBehind_24, e_B_offBehind_25, e_B_offBehind_28, e_B_offBehind_29, e_B_offBehind_30, e_B_offBehind_33, e_B_offBehind_34, e_B_offBehind_37, e_B_offBehind_40, e_B_offBehind_41, e_B_offBehind_42, e_B_offBehind_45, e_B_offBehind_46, e_B_offBehind_49, e_B_offBehind_52, e_B_offBehind_53, e_B_offBehind_54, e_B_offBehind_55, e_B_offBehind_58, e_B_offBehind_59, e_B_offBehind_60, e_B_offBehind_63, e_B_offBehind_66, e_B_offBehind_67, sh_o_1, sh_r_0_0, rd 1 (by decide) (by decide) (by decide), e10, Int32.le_refl, pm_opt_some, pm_opt_none, pm_opt_if, Bool.false_eq_true, Bool.not_false, Bool.not_true, if_false, if_true, true_and, and_true, true_or, or_true, not_true_eq_false, not_false_eq_true, q10, q00, q01, q11, pk_v, pk_i, pk_l, pk_r]
theorem ofT_s : ofT I w (h + 1) = hsT I w 0 (nI h) (wmI I (nI h)) (ofT I w h) := by
  unfold ofT hrT
  rw [fld_s]
  simp only [Nat.zero_add]
theorem ofB_0 {L : Nat} (hh : hol I n) (hL : ∀ k, k < n → ∀ m, m < 240 → I 11 k = nI m → m ≤ L) (hl : L < h) (h2 : h < 240) : ofB I w n h = 0 := by
  refine sumR_z n 0 (fun i h1 h3 => ?_)
  obtain ⟨m, hm, e⟩ := (hh.2.2 i (by omega)).2.1
  have := hL i (by omega) m hm e
  unfold ofK
  rw [if_neg]
  rw [e, nI_eq (by omega) (by omega)]
  omega
/-- the last HOUR of HOLES -/
theorem B_off_last (hh : hol I n) : ∃ L, L < 240 ∧ (∀ k, k < n → ∀ m, m < 240 → I 11 k = nI m → m ≤ L) ∧ ∀ (d : Nat) (Q : pm_O → Prop), pm_V X (d + 3) 58 2 [some (.ref 0), some (.ref w), some (.int 0), none, none] [] (pm_S0 ++ g, upC I 36 37 38 T 16, J) Q = pm_V X (d + 3) 58 35 [some (.ref 0), some (.ref w), some (.int (nI L)), some (.int (nI n)), none] [] (pm_S0 ++ g, upC I 36 37 38 T 16, J) Q := by
  obtain ⟨hn, e10, hl⟩ := hh
  have rd : ∀ q, ¬ q = 36 → ¬ q = 37 → ¬ q = 38 → upC I 36 37 38 T 16 q = I q := fun q a b c => upC_at a b c
  have A : ∀ (r k L : Nat), k + r = n → L < 240 → (∀ i, i < k → ∀ m, m < 240 → I 11 i = nI m → m ≤ L) → ∃ L', L' < 240 ∧ (∀ k, k < n → ∀ m, m < 240 → I 11 k = nI m → m ≤ L') ∧ ∀ (d : Nat) (Q : pm_O → Prop), pm_V X (d + 3) 58 4 [some (.ref 0), some (.ref w), some (.int (nI L)), some (.int (nI k)), none] [] (pm_S0 ++ g, upC I 36 37 38 T 16, J) Q = pm_V X (d + 3) 58 35 [some (.ref 0), some (.ref w), some (.int (nI L')), some (.int (nI n)), none] [] (pm_S0 ++ g, upC I 36 37 38 T 16, J) Q := by
    intro r
    induction r with
    | zero =>
      intro k L hk hL h
      obtain rfl : k = n := by omega
      refine ⟨L, hL, h, fun d Q => ?_⟩
      rw [e_B_offOf_4]
      simp only [e_B_offOf_5, e_B_offOf_6, e_B_offOf_9, e_B_offOf_12, sh_o_1, sh_r_0_0, rd 1 (by decide) (by decide) (by decide), e10, Int32.le_refl, pm_opt_some, pm_opt_none, pm_opt_if, Bool.false_eq_true, Bool.not_false, Bool.not_true, if_false, if_true, true_and, and_true, true_or, or_true, not_true_eq_false, not_false_eq_true, q10, q00, q01, q11, pk_v, pk_i, pk_l, pk_r]
    | succ r ih =>
      intro k L hk hL h
      obtain ⟨_, ⟨m2, a2, b2⟩, _⟩ := hl k (by omega)
      have h1 : (nI n ≤ nI k) = False := by
        rw [nI_le_l (by omega) (by omega)]
        exact eq_false (by omega)
      have hb := bad_nI (k := k) (n := 10) (by omega) (by decide)
      have hc := nI_clamp (n := k) (by omega)
      have hmx : (if nI L < nI m2 then nI m2 else nI L) = nI (max L m2) := by
        by_cases q : nI L < nI m2
        · rw [if_pos q]
          rw [nI_ltI (by omega) (by omega)] at q
          rw [Nat.max_eq_right (by omega)]
        · rw [if_neg q]
          rw [nI_ltI (by omega) (by omega)] at q
          rw [Nat.max_eq_left (by omega)]
      obtain ⟨L', g1, g2, g3⟩ := ih (k + 1) (max L m2) (by omega) (by omega) (by
        intro i hi m hm e
        by_cases q : i = k
        · subst q
          have := (nI_eq (by omega) (by omega)).mp (b2.symm.trans e)
          omega
        · have := h i (by omega) m hm e
          omega)
      refine ⟨L', g1, g2, fun d Q => ?_⟩
      have hd : 2 ≤ d + 3 := by omega
      rw [← g3, e_B_offOf_4]
      simp only [e_B_offOf_5, e_B_offOf_6, e_B_offOf_9, e_B_offOf_12, e_B_offOf_15, e_B_offOf_16, e_B_offOf_17, e_B_offOf_20, e_B_offOf_23, e_B_offOf_24, e_B_offOf_25, e_B_offOf_28, e_B_offOf_29, e_B_offOf_32, sh_o_1, sh_r_0_0, sh_r_1_8, sh_i_11, rd 1 (by decide) (by decide) (by decide), rd 11 (by decide) (by decide) (by decide), e10, h1, hb, hc, b2, hmx, hd, nI_1, pm_opt_some, pm_opt_none, pm_opt_if, Bool.false_eq_true, Bool.not_false, Bool.not_true, if_false, if_true, true_and, and_true, true_or, or_true, not_true_eq_false, not_false_eq_true, q10, q00, q01, q11, pk_v, pk_i, pk_l, pk_r]
  obtain ⟨L, g1, g2, g3⟩ := A n 0 0 (by omega) (by decide) (fun i hi => absurd hi (by omega))
  refine ⟨L, g1, g2, fun d Q => ?_⟩
  rw [← g3]
  simp only [e_B_offOf_2, e_B_offOf_3, nI_0]
theorem K_B_offOf (hh : hol I n) (hw : isW w) (hv : wok I w) : ∃ T', ∀ (d : Nat) (P : pm_O → Prop), pm_cl X (d + 13) 58 [.ref 0, .ref w] (pm_S0 ++ g, upC I 36 37 38 T 16, J) P = P (some (.int (ofS I w n)), (pm_S0 ++ g, upC I 36 37 38 T' 16, J)) := by
  obtain ⟨L, hL, hLm, h0⟩ := B_off_last (X := X) (g := g) (J := J) (T := T) (w := w) hh
  have rd : ∀ (T : Nat → T3) q, ¬ q = 36 → ¬ q = 37 → ¬ q = 38 → upC I 36 37 38 T 16 q = I q := fun T q a b c => upC_at a b c
  refine ⟨ofT I w L, fun d P => ?_⟩
  refine K_of (k := 12) (fun d' => ?_)
  have hm : ofS I w n = ofB I w n 0 + sumR (ofB I w n) 1 L := by
    unfold ofS
    rw [show 240 = (L + 1) + (239 - L) by omega, sumR_split, sumR_z (239 - L) (0 + (L + 1)) (fun i a b => ofB_0 hh hLm (by omega) (by omega)), Int32.add_zero]
    rfl
  have L1 := fun (Q : pm_O → Prop) => pm_lpI (fun k (s : Int32) => pm_V X (d' + 12) 58 51 [some (.ref 0), some (.ref w), some (.int (nI L)), some (.int s), some (.int (nI (k - 1)))] [] (pm_S0 ++ g, upC I 36 37 38 (ofT I w (k - 1)) 16, J) Q) (fun k s => s + ofB I w n k) (fun k _ => 1 ≤ k) (L + 1) (by
    intro k s hk hk1
    obtain ⟨k, rfl⟩ : ∃ k', k = k' + 1 := ⟨k - 1, by omega⟩
    rw [Nat.add_sub_cancel]
    have h1 : (nI L ≤ nI k) = False := by
      rw [nI_le_l (by omega) (by omega)]
      exact eq_false (by omega)
    have ewm : (if dayI (nI k) < 10 ∧ upC I 36 37 38 (ofT I w k) 16 1 5 >>> (dayI (nI k) &&& 31) &&& 1 = 1 then (1 : Int32) else 0) = wmI I (nI k) := by
      rw [rd _ 1 (by decide) (by decide) (by decide)]
      rfl
    have ehr := fun (d : Nat) (P : pm_O → Prop) => K_B_hour (X := X) (d := d) (P := P) (g := g) (J := J) (I := I) (T := ofT I w k) (hour := nI k) (warm := wmI I (nI k)) (heat := 0) ice_ask (by decide) (by decide) (by decide) hw hv wmI_01
    rw [← ofT_s] at ehr
    show pm_V X (d' + 12) 58 51 [some (.ref 0), some (.ref w), some (.int (nI L)), some (.int s), some (.int (nI k))] [] (pm_S0 ++ g, upC I 36 37 38 (ofT I w k) 16, J) Q = _
    rw [e_B_offOf_51]
    simp only [e_B_offOf_0, e_B_offOf_1, e_B_offOf_3, e_B_offOf_5, e_B_offOf_6, e_B_offOf_9, e_B_offOf_12, e_B_offOf_15, e_B_offOf_16, e_B_offOf_17, e_B_offOf_20, e_B_offOf_23, e_B_offOf_24, e_B_offOf_25, e_B_offOf_28, e_B_offOf_29, e_B_offOf_32, e_B_offOf_36, e_B_offOf_39, e_B_offOf_42, e_B_offOf_43, e_B_offOf_44, e_B_offOf_47, e_B_offOf_48, e_B_offOf_49, e_B_offOf_53, e_B_offOf_54, e_B_offOf_57, e_B_offOf_58, e_B_offOf_59, e_B_offOf_62, e_B_offOf_63, e_B_offOf_65, e_B_offOf_66, e_B_offOf_68, e_B_offOf_71, e_B_offOf_72, e_B_offOf_75, e_B_offOf_76, e_B_offOf_77, e_B_offOf_79, e_B_offOf_80, e_B_offOf_81, e_B_offOf_84, e_B_offOf_85, e_B_offOf_86, e_B_offOf_89, e_B_offOf_92, e_B_offOf_93, h1, sh_o_0, sh_o_35, sh_r_0_10, (isW_at (g := g) hw).1, K_B_isWarm, ewm, ehr, K_B_offBehind hh, nI_1, Nat.add_sub_cancel, pm_opt_some, pm_opt_none, pm_opt_if, Bool.false_eq_true, Bool.not_false, Bool.not_true, if_false, if_true, true_and, and_true, true_or, or_true, not_true_eq_false, not_false_eq_true, q10, q00, q01, q11, pk_v, pk_i, pk_l, pk_r]
    rfl) (by
    intro k s hk h1
    omega) L 1 (ofB I w n 0) (by omega) (by omega)
  rw [sumR_fld, ← hm] at L1
  simp only [Nat.add_sub_cancel, Nat.sub_self, nI_0] at L1
  have hz : (sumR (ofK I 0 zT) 0 n) = ofB I w n 0 := rfl
  have kb0 := fun (d : Nat) (P : pm_O → Prop) => K_B_offBehind (X := X) (d := d) (P := P) (g := g) (J := J) (T := zT) (h := 0) hh
  rw [nI_0, hz] at kb0
  show pm_V X (d' + 12) 58 0 [some (.ref 0), some (.ref w), none, none, none] [] (pm_S0 ++ g, upC I 36 37 38 T 16, J) _
  simp only [e_B_offOf_0, e_B_offOf_1]
  show pm_V X (d' + 9 + 3) 58 2 _ _ _ _
  rw [h0, e_B_offOf_35]
  simp only [e_B_offOf_0, e_B_offOf_1, e_B_offOf_3, e_B_offOf_5, e_B_offOf_6, e_B_offOf_9, e_B_offOf_12, e_B_offOf_15, e_B_offOf_16, e_B_offOf_17, e_B_offOf_20, e_B_offOf_23, e_B_offOf_24, e_B_offOf_25, e_B_offOf_28, e_B_offOf_29, e_B_offOf_32, e_B_offOf_36, e_B_offOf_39, e_B_offOf_42, e_B_offOf_43, e_B_offOf_44, e_B_offOf_47, e_B_offOf_48, e_B_offOf_49, e_B_offOf_53, e_B_offOf_54, e_B_offOf_57, e_B_offOf_58, e_B_offOf_59, e_B_offOf_62, e_B_offOf_63, e_B_offOf_65, e_B_offOf_66, e_B_offOf_68, e_B_offOf_71, e_B_offOf_72, e_B_offOf_75, e_B_offOf_76, e_B_offOf_77, e_B_offOf_79, e_B_offOf_80, e_B_offOf_81, e_B_offOf_84, e_B_offOf_85, e_B_offOf_86, e_B_offOf_89, e_B_offOf_92, e_B_offOf_93, sh_o_0, sh_o_35, sh_r_0_10, K_I_vanish, kb0, pm_opt_some, pm_opt_none, pm_opt_if, Bool.false_eq_true, Bool.not_false, Bool.not_true, if_false, if_true, true_and, and_true, true_or, or_true, not_true_eq_false, not_false_eq_true, q10, q00, q01, q11, pk_v, pk_i, pk_l, pk_r]
  refine Eq.mpr (L1 _) ?_
  rw [e_B_offOf_51]
  simp only [e_B_offOf_0, e_B_offOf_1, e_B_offOf_3, e_B_offOf_5, e_B_offOf_6, e_B_offOf_9, e_B_offOf_12, e_B_offOf_15, e_B_offOf_16, e_B_offOf_17, e_B_offOf_20, e_B_offOf_23, e_B_offOf_24, e_B_offOf_25, e_B_offOf_28, e_B_offOf_29, e_B_offOf_32, e_B_offOf_36, e_B_offOf_39, e_B_offOf_42, e_B_offOf_43, e_B_offOf_44, e_B_offOf_47, e_B_offOf_48, e_B_offOf_49, e_B_offOf_53, e_B_offOf_54, e_B_offOf_57, e_B_offOf_58, e_B_offOf_59, e_B_offOf_62, e_B_offOf_63, e_B_offOf_65, e_B_offOf_66, e_B_offOf_68, e_B_offOf_71, e_B_offOf_72, e_B_offOf_75, e_B_offOf_76, e_B_offOf_77, e_B_offOf_79, e_B_offOf_80, e_B_offOf_81, e_B_offOf_84, e_B_offOf_85, e_B_offOf_86, e_B_offOf_89, e_B_offOf_92, e_B_offOf_93, Int32.le_refl, pm_opt_some, pm_opt_none, pm_opt_if, Bool.false_eq_true, Bool.not_false, Bool.not_true, if_false, if_true, true_and, and_true, true_or, or_true, not_true_eq_false, not_false_eq_true, q10, q00, q01, q11, pk_v, pk_i, pk_l, pk_r]
end P54
