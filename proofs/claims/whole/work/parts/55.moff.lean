/-! pairs of calls: off, likely (the reference's side) -/
section P55
variable {X : pm_X} {d : Nat} {P Q : pm_O → Prop} {g : List pm_S} {S : List pm_S} {I I' I1 B : Nat → Nat → Int32} {J J' : Nat → Nat → Int64} {j w m n h f : Nat} {c a b s l : Int32} {fi : Int32} {p : Nat → Int32} {T U : Nat → T3}
theorem K_M_apart {a b : Int32} : pm_cl X (d + 1) 162 [.ref 82, .int a, .int b] (S, I, J) P = P (some (.int (if a < b then b - a else a - b)), (S, I, J)) := by
  refine K_of (k := 0) (fun d' => ?_)
  show pm_V X d' 162 0 [some (.ref 82), some (.int a), some (.int b)] [] (S, I, J) _
  simp only [e_M_apart_0, e_M_apart_1, e_M_apart_2, e_M_apart_5, e_M_apart_6, e_M_apart_7, e_M_apart_8, e_M_apart_11, e_M_apart_12, e_M_apart_13, e_M_apart_14, pm_opt_some, pm_opt_none, pm_opt_if, Bool.false_eq_true, Bool.not_false, Bool.not_true, if_false, if_true, true_and, and_true, true_or, or_true, not_true_eq_false, not_false_eq_true, q10, q00, q01, q11, pk_v, pk_i, pk_l, pk_r]
  by_cases q : a < b
  · have q1 : ¬ b ≤ a := Int32.not_le.mpr q
    simp only [q, q1, pm_opt_some, pm_opt_none, pm_opt_if, Bool.false_eq_true, Bool.not_false, Bool.not_true, if_false, if_true, true_and, and_true, true_or, or_true, not_true_eq_false, not_false_eq_true, q10, q00, q01, q11, pk_v, pk_i, pk_l, pk_r]
  · have q1 : b ≤ a := Int32.not_lt.mp q
    simp only [q, q1, pm_opt_some, pm_opt_none, pm_opt_if, Bool.false_eq_true, Bool.not_false, Bool.not_true, if_false, if_true, true_and, and_true, true_or, or_true, not_true_eq_false, not_false_eq_true, q10, q00, q01, q11, pk_v, pk_i, pk_l, pk_r]
/-- no ice -/
theorem M_off_pre : ∀ (l3 l4 : Option Value) (d : Nat) (Q : pm_O → Prop), pm_V X d 163 0 [some (.ref 82), some (.int fi), none, none, none] [] (pm_S0 ++ g, I, J) Q = pm_V X d 163 45 [some (.ref 82), some (.int fi), some (.int (nI 16)), none, none] [] (pm_S0 ++ g, MS (nL I) zT 0 (I 98), J) Q := by
  intro l3 l4 d Q
  have L := fun (Q : pm_O → Prop) => pm_lp0 (fun k => pm_V X d 163 12 [some (.ref 82), some (.int fi), some (.int (nI k)), none, none] [] (pm_S0 ++ g, upC (pm_w (pm_w I 82 26 0) 82 27 (-1)) 99 100 101 zT k, J) Q) 16 (by
    intro k hk
    have h1 : ((16 : Int32) ≤ nI k) = False := by
      rw [show (16 : Int32) = nI 16 from rfl, nI_le_l (by omega) (by omega)]
      exact eq_false (by omega)
    have hb := bad_nI (k := k) (n := 16) hk (by decide)
    have hc := nI_clamp (n := k) (by omega)
    have es := upC_s (I := pm_w (pm_w I 82 26 0) 82 27 (-1)) (n := k) (f := zT) (a := 99) (b := 100) (c := 101) (by decide) (by decide) (by decide)
    have i3 := p3_id (I := upC (pm_w (pm_w I 82 26 0) 82 27 (-1)) 99 100 101 zT k) (a := 99) (b := 100) (c := 101) (j := k) (by decide) (by decide) (by decide)
    have n1 : (99 : Nat) ≠ 100 := by decide
    have n2 : (99 : Nat) ≠ 101 := by decide
    have n3 : (100 : Nat) ≠ 101 := by decide
    show pm_V X d 163 12 [some (.ref 82), some (.int fi), some (.int (nI k)), none, none] [] (pm_S0 ++ g, upC (pm_w (pm_w I 82 26 0) 82 27 (-1)) 99 100 101 zT k, J) Q = _
    rw [← es, e_M_offOf_12, ← i3]
    simp only [e_M_offOf_13, e_M_offOf_15, e_M_offOf_18, e_M_offOf_19, e_M_offOf_22, e_M_offOf_23, e_M_offOf_24, e_M_offOf_25, e_M_offOf_26, e_M_offOf_29, e_M_offOf_30, e_M_offOf_31, e_M_offOf_32, e_M_offOf_33, e_M_offOf_36, e_M_offOf_37, e_M_offOf_38, e_M_offOf_39, e_M_offOf_42, h1, sh_r_82_28, sh_r_82_29, sh_r_82_30, sh_w_99, sh_w_100, sh_w_101, hb, hc, p3_wa, p3_wb n1, p3_wc n2 n3, nI_1, pm_opt_some, pm_opt_none, pm_opt_if, Bool.false_eq_true, Bool.not_false, Bool.not_true, if_false, if_true, true_and, and_true, true_or, or_true, not_true_eq_false, not_false_eq_true, q10, q00, q01, q11, pk_v, pk_i, pk_l, pk_r]
    rw [i3]
    rfl) 16 0 (by omega)
  simp only [upC_0, nI_0] at L
  have h16 : ((16 : Int32) ≤ nI 16) = True := by decide
  have e : upC (pm_w (pm_w I 82 26 0) 82 27 (-1)) 99 100 101 zT 16 = MS (nL I) zT 0 (I 98) := by
    unfold MS nL
    rw [show I 98 = pm_w (pm_w I 82 27 (-1)) 82 26 0 98 by simp only [pw_eq, pw_ne, pu_eq, pu_ne, upd_app, Nat.reduceEqDiff, not_false_eq_true, if_false, if_true], pu_self]
    congr 1
    funext q i
    simp only [pm_w_app]
    by_cases q1 : q = 82
    · by_cases q2 : i = 27
      · subst q2
        simp [q1]
      · simp [q1, q2]
    · simp [q1]
  simp only [e_M_offOf_0, e_M_offOf_1, e_M_offOf_2, e_M_offOf_5, e_M_offOf_6, e_M_offOf_7, e_M_offOf_10, e_M_offOf_11, sh_o_82, pm_opt_some, pm_opt_none, pm_opt_if, Bool.false_eq_true, Bool.not_false, Bool.not_true, if_false, if_true, true_and, and_true, true_or, or_true, not_true_eq_false, not_false_eq_true, q10, q00, q01, q11, pk_v, pk_i, pk_l, pk_r]
  rw [L, e_M_offOf_12, e]
  simp only [e_M_offOf_13, e_M_offOf_15, h16, pm_opt_some, pm_opt_none, pm_opt_if, Bool.false_eq_true, Bool.not_false, Bool.not_true, if_false, if_true, true_and, and_true, true_or, or_true, not_true_eq_false, not_false_eq_true, q10, q00, q01, q11, pk_v, pk_i, pk_l, pk_r]
theorem M_off_in {p : Nat → Int32} (hs : sfr I B) (hR : Rel B J) (hh : hol I n) (hT : Tok T) {h : Nat} : ∀ (r k : Nat) (s : Int32) (l4 : Option Value), k + r = n → ∀ (d : Nat) (Q : pm_O → Prop), pm_V X (d + 3) 163 59 [some (.ref 82), some (.int fi), some (.int s), some (.int (nI h)), some (.int (nI k))] [] (pm_S0 ++ g, MS B T (nI h) p, J) Q = pm_V X (d + 3) 163 114 [some (.ref 82), some (.int fi), some (.int (s + sumR (ofK I h T) k r)), some (.int (nI h)), some (.int (nI n))] [] (pm_S0 ++ g, MS B T (nI h) p, J) Q := by
  obtain ⟨hn, e10, hl⟩ := hh
  have e34 : MS B T (nI h) p 82 34 = nI n := by
    rw [MS_82k (by decide), hR.1.2.2.2.1, sfr_at hs (q := 1) (by decide)]
    exact e10
  have c5 : MS B T (nI h) p 105 = I 10 := by rw [MS_rd (by decide), hR.1.1.2.2.2.2.2.2.2.1, sfr_at hs (q := 10) (by decide)]
  have c6 : MS B T (nI h) p 106 = I 11 := by rw [MS_rd (by decide), hR.1.1.2.2.2.2.2.2.2.2.1, sfr_at hs (q := 11) (by decide)]
  have c7 : MS B T (nI h) p 107 = I 12 := by rw [MS_rd (by decide), hR.1.1.2.2.2.2.2.2.2.2.2, sfr_at hs (q := 12) (by decide)]
  intro r
  induction r with
  | zero =>
    intro k s l4 hk d Q
    obtain rfl : k = n := by omega
    rw [e_M_offOf_59]
    simp only [e_M_offOf_61, e_M_offOf_62, e_M_offOf_65, sh_o_82, e34, Int32.le_refl, pm_opt_some, pm_opt_none, pm_opt_if, Bool.false_eq_true, Bool.not_false, Bool.not_true, if_false, if_true, true_and, and_true, true_or, or_true, not_true_eq_false, not_false_eq_true, q10, q00, q01, q11, pk_v, pk_i, pk_l, pk_r]
    rw [show sumR (ofK I h T) k 0 = 0 from rfl, Int32.add_zero]
  | succ r ih =>
    intro k s l4 hk d Q
    obtain ⟨⟨m1, a1, b1⟩, ⟨m2, a2, b2⟩, m3, a3, b3⟩ := hl k (by omega)
    have h1 : (nI n ≤ nI k) = False := by
      rw [nI_le_l (by omega) (by omega)]
      exact eq_false (by omega)
    have hb := bad_nI (k := k) (n := 10) (by omega) (by decide)
    have hc := nI_clamp (n := k) (by omega)
    have hcm := nI_clamp (n := m1) (by omega)
    have ht := thT_bd (hT m1 a1)
    have e3 : (nI m3).toInt = m3 := nI_toInt (by omega)
    have ab : (if thT (T m1) < nI m3 then nI m3 - thT (T m1) else thT (T m1) - nI m3) = absI (thT (T m1) - nI m3) := (absI_eq (by omega) (by omega)).symm
    have ek : ofK I h T k = if I 11 k = nI h then absI (thT (T m1) - nI m3) else 0 := by
      unfold ofK
      rw [b1, hcm, b3]
    rw [sumR, ← Int32.add_assoc, ← ih (k + 1) (s + ofK I h T k) none (by omega), ek, e_M_offOf_59]
    simp only [e_M_offOf_0, e_M_offOf_1, e_M_offOf_2, e_M_offOf_5, e_M_offOf_6, e_M_offOf_7, e_M_offOf_10, e_M_offOf_11, e_M_offOf_12, e_M_offOf_13, e_M_offOf_15, e_M_offOf_18, e_M_offOf_19, e_M_offOf_22, e_M_offOf_23, e_M_offOf_24, e_M_offOf_25, e_M_offOf_26, e_M_offOf_29, e_M_offOf_30, e_M_offOf_31, e_M_offOf_32, e_M_offOf_33, e_M_offOf_36, e_M_offOf_37, e_M_offOf_38, e_M_offOf_39, e_M_offOf_42, e_M_offOf_45, e_M_offOf_46, e_M_offOf_47, e_M_offOf_48, e_M_offOf_50, e_M_offOf_53, e_M_offOf_56, e_M_offOf_57, e_M_offOf_61, e_M_offOf_62, e_M_offOf_65, e_M_offOf_68, e_M_offOf_69, e_M_offOf_70, e_M_offOf_73, e_M_offOf_75, e_M_offOf_76, e_M_offOf_77, e_M_offOf_80, e_M_offOf_81, e_M_offOf_82, e_M_offOf_83, e_M_offOf_86, e_M_offOf_88, e_M_offOf_89, e_M_offOf_92, e_M_offOf_93, e_M_offOf_96, e_M_offOf_98, e_M_offOf_99, e_M_offOf_102, e_M_offOf_105, e_M_offOf_106, e_M_offOf_107, e_M_offOf_108, e_M_offOf_111, e_M_offOf_115, e_M_offOf_116, e_M_offOf_117, e_M_offOf_118, e_M_offOf_121, e_M_offOf_124, e_M_offOf_127, e_M_offOf_130, e_M_offOf_133, e_M_offOf_134, sh_o_82, e34, h1, sh_r_82_35, sh_r_82_36, sh_r_82_37, sh_i_105, sh_i_106, sh_i_107, c5, c6, c7, hb, hc, b1, b3, K_M_thickT a1, K_M_apart, ab, nI_1, pm_opt_some, pm_opt_none, pm_opt_if, Bool.false_eq_true, Bool.not_false, Bool.not_true, if_false, if_true, true_and, and_true, true_or, or_true, not_true_eq_false, not_false_eq_true, q10, q00, q01, q11, pk_v, pk_i, pk_l, pk_r]
    by_cases q : I 11 k = nI h
    · simp only [q, pm_opt_some, pm_opt_none, pm_opt_if, Bool.false_eq_true, Bool.not_false, Bool.not_true, if_false, if_true, true_and, and_true, true_or, or_true, not_true_eq_false, not_false_eq_true, q10, q00, q01, q11, pk_v, pk_i, pk_l, pk_r]
    · simp only [q, pm_opt_some, pm_opt_none, pm_opt_if, Bool.false_eq_true, Bool.not_false, Bool.not_true, if_false, if_true, true_and, and_true, true_or, or_true, not_true_eq_false, not_false_eq_true, q10, q00, q01, q11, pk_v, pk_i, pk_l, pk_r]
theorem M_off_out (hs : sfr I B) (hR : Rel B J) (hL : B 82 27 = -1) (hh : hol I n) (hX : WX B w fi) : ∀ (r h : Nat) (s : Int32) (p : Nat → Int32) (l4 : Option Value), h + r = 240 → Tok (ofT I w h) → ∃ p' T', ∀ (d : Nat) (Q : pm_O → Prop), pm_V X (d + 12) 163 49 [some (.ref 82), some (.int fi), some (.int s), some (.int (nI h)), l4] [] (pm_S0 ++ g, MS B (ofT I w h) (nI h) p, J) Q = Q (some (.int (s + sumR (ofB I w n) h r)), (pm_S0 ++ g, MS B T' (nI 240) p', J)) := by
  have isw := WX_is hX
  intro r
  induction r with
  | zero =>
    intro h s p l4 hk hT
    obtain rfl : h = 240 := by omega
    have h1 : ((240 : Int32) ≤ nI 240) = True := by decide
    refine ⟨p, ofT I w 240, fun d Q => ?_⟩
    rw [e_M_offOf_49]
    simp only [e_M_offOf_50, e_M_offOf_53, e_M_offOf_133, e_M_offOf_134, h1, pm_opt_some, pm_opt_none, pm_opt_if, Bool.false_eq_true, Bool.not_false, Bool.not_true, if_false, if_true, true_and, and_true, true_or, or_true, not_true_eq_false, not_false_eq_true, q10, q00, q01, q11, pk_v, pk_i, pk_l, pk_r]
    rw [show sumR (ofB I w n) 240 0 = 0 from rfl, Int32.add_zero]
  | succ r ih =>
    intro h s p l4 hk hT
    have h1 : ((240 : Int32) ≤ nI h) = False := by
      rw [show (240 : Int32) = nI 240 from rfl, nI_le_l (by omega) (by omega)]
      exact eq_false (by omega)
    obtain ⟨p1, h2⟩ := K_M_goHour (X := X) (g := g) (J := J) (n := nI h) (p := p) hX (Rel_MC hR) hT (wmI_01 (I := I) (h := nI h))
    have eT : stM B w (nI h) (wmI I (nI h)) (ofT I w h) = ofT I w (h + 1) := by
      rw [ofT_s, ← sfr_hs hs isw]
      unfold stM hsT stT
      funext k
      rw [lt_no hL]
    have hT' : Tok (ofT I w (h + 1)) := by
      rw [← eT]
      exact stM_ok hX (Rel_MC hR) hT
    rw [eT, nI_1] at h2
    obtain ⟨p', T', h3⟩ := ih (h + 1) (s + ofB I w n h) p1 (some (.int (nI n))) (by omega) hT'
    refine ⟨p', T', fun d Q => ?_⟩
    have e26 : MS B (ofT I w h) (nI h) p 82 26 = nI h := by rw [MS_82, upd_app, if_pos rfl]
    have ewm : (if dayI (nI h) < 10 ∧ MS B (ofT I w h) (nI h) p 82 1 >>> (dayI (nI h) &&& 31) &&& 1 = 1 then (1 : Int32) else 0) = wmI I (nI h) := by
      rw [MS_82k (by decide), hR.1.2.2.1, ← sfr_wm hs]
      rfl
    have li := M_off_in (X := X) (g := g) (fi := fi) (p := p) hs hR hh hT (h := h) n 0 s none (by omega) (d + 9) Q
    rw [nI_0] at li
    rw [sumR, ← Int32.add_assoc, ← h3 d Q, e_M_offOf_49]
    simp only [e_M_offOf_50, e_M_offOf_53, e_M_offOf_56, e_M_offOf_57, h1, pm_opt_some, pm_opt_none, pm_opt_if, Bool.false_eq_true, Bool.not_false, Bool.not_true, if_false, if_true, true_and, and_true, true_or, or_true, not_true_eq_false, not_false_eq_true, q10, q00, q01, q11, pk_v, pk_i, pk_l, pk_r]
    refine Eq.trans li ?_
    rw [e_M_offOf_114]
    simp only [e_M_offOf_115, e_M_offOf_116, e_M_offOf_117, e_M_offOf_118, e_M_offOf_121, e_M_offOf_124, e_M_offOf_127, e_M_offOf_130, sh_o_82, e26, K_M_isWarm, ewm, h2, nI_1, pm_opt_some, pm_opt_none, pm_opt_if, Bool.false_eq_true, Bool.not_false, Bool.not_true, if_false, if_true, true_and, and_true, true_or, or_true, not_true_eq_false, not_false_eq_true, q10, q00, q01, q11, pk_v, pk_i, pk_l, pk_r]
    rfl
theorem zT_ok : Tok zT := fun k hk => by
  unfold zT
  unfold T3ok
  try dsimp only
  rw [k0]
  omega
theorem K_M_offOf (hs : sfr I B) (hR : Rel B J) (hh : hol I n) (hX : WX B w fi) : ∃ B', sfr B B' ∧ ∀ (d : Nat) (P : pm_O → Prop), pm_cl X (d + 13) 163 [.ref 82, .int fi] (pm_S0 ++ g, B, J) P = P (some (.int (ofS I w n)), (pm_S0 ++ g, B', J)) := by
  obtain ⟨p', T', h⟩ := M_off_out (X := X) (g := g) (J := J) (I := I) (n := n) (sfr_tr hs nL_sfr) (Rel_s nL_sfr hR) nL_27 hh (sfr_WX nL_sfr hX) 240 0 0 (B 98) none (by omega) zT_ok
  refine ⟨MS (nL B) T' (nI 240) p', sfr_tr nL_sfr MS_sfr, fun d P => ?_⟩
  refine K_of (k := 12) (fun d' => ?_)
  have h' := h d'
  rw [nI_0, Int32.zero_add] at h'
  show pm_V X (d' + 12) 163 0 [some (.ref 82), some (.int fi), none, none, none] [] (pm_S0 ++ g, B, J) _
  rw [M_off_pre none none]
  simp only [e_M_offOf_45, e_M_offOf_46, e_M_offOf_47, e_M_offOf_48]
  refine Eq.mpr (h' _) ?_
  rfl
theorem Rel_wn (hR : Rel I J) : ∃ n, n ≤ 5 ∧ I 0 7 = nI n := by
  obtain ⟨_, n, hn, e, _⟩ := hR.2.2.2.2.2.1
  exact ⟨n, hn, e⟩
theorem wi_in {n : Nat} (hn : n ≤ 5) (h : 0 ≤ a ∧ a ≤ nI n - 1) : ∃ f, f < n ∧ a = nI f := by
  have e : (nI n - 1).toInt = (n : Int) - 1 := pk_sub_toInt (b := 1) (by omega) (by omega)
  have h1 := h.1
  have h2 := h.2
  rw [i_le, k0] at h1
  rw [i_le, e] at h2
  obtain ⟨f, hf, rfl⟩ := nI_of (x := a) (Int32.not_lt.mpr h.1)
  rw [nI_toInt hf] at h1 h2
  exact ⟨f, by omega, rfl⟩
theorem Pair_off (hR : Rel I J) : Pair X 20 164 [.int a] g I J := by
  obtain ⟨n, hn, en⟩ := Rel_wn hR
  have e9 : ∀ I1, sfr I I1 → Rel I1 J → I1 82 9 = nI n := fun I1 h1 hR1 => by rw [hR1.2.2.1.2.2.2.1, sfr_at h1 (q := 0) (by decide)]; exact en
  by_cases ha : 0 ≤ a ∧ a ≤ nI n - 1
  · obtain ⟨f, hf, rfl⟩ := wi_in hn ha
    obtain ⟨q, hh⟩ := Rel_hol hR
    have hX := Rel_W1 hR en hn hf
    refine Pair_q (v := .int (ofS I (45 + 5 * f) q)) hR ?_ (fun I1 h1 hR1 => ?_)
    · obtain ⟨T', hB⟩ := K_B_offOf (X := X) (g := g) (J := J) (T := rowT I 36 37 38) hh (WX_is hX) (WX_ok hX)
      rw [upC_self] at hB
      refine ⟨upC I 36 37 38 T' 16, ask_sfr, K50 fun d' => ?_⟩
      show pm_V X (d' + 49) 20 0 [some (.ref 0), some (.int (nI f))] [] (pm_S0 ++ g, I, J) _
      simp only [e_B_off_0, e_B_off_1, e_B_off_2, e_B_off_3, e_B_off_6, e_B_off_7, e_B_off_8, e_B_off_11, e_B_off_14, e_B_off_15, e_B_off_16, e_B_off_17, e_B_off_18, e_B_off_21, e_B_off_22, e_B_off_23, e_B_off_26, K_B_isWithin, en, eq_true ha, sh_o_0, sh_r_0_6, wn_a (show f < 5 by omega), (isW_at (g := g) (WX_is hX)).1, hB, pm_opt_some, pm_opt_none, pm_opt_if, Bool.false_eq_true, Bool.not_false, Bool.not_true, if_false, if_true, true_and, and_true, true_or, or_true, not_true_eq_false, not_false_eq_true, q10, q00, q01, q11, pk_v, pk_i, pk_l, pk_r]
    · obtain ⟨B', b1, hM⟩ := K_M_offOf (X := X) (g := g) h1 hR1 hh (sfr_WX h1 hX)
      refine ⟨B', b1, K50 fun d' => ?_⟩
      show pm_V X (d' + 49) 164 0 [some (.ref 82), some (.int (nI f))] [] (pm_S0 ++ g, I1, J) _
      simp only [e_M_off_0, e_M_off_1, e_M_off_2, e_M_off_3, e_M_off_4, e_M_off_7, e_M_off_8, e_M_off_9, e_M_off_12, e_M_off_15, e_M_off_16, e_M_off_17, e_M_off_20, e_M_off_23, e_M_off_24, K_M_in, e9 I1 h1 hR1, eq_true ha, sh_o_82, hM, pm_opt_some, pm_opt_none, pm_opt_if, Bool.false_eq_true, Bool.not_false, Bool.not_true, if_false, if_true, true_and, and_true, true_or, or_true, not_true_eq_false, not_false_eq_true, q10, q00, q01, q11, pk_v, pk_i, pk_l, pk_r]
  · refine Pair_q (v := .int (-1)) hR ⟨I, sfr_rf, K50 fun d' => ?_⟩ (fun I1 h1 hR1 => ⟨I1, sfr_rf, K50 fun d' => ?_⟩)
    · show pm_V X (d' + 49) 20 0 [some (.ref 0), some (.int a)] [] (pm_S0 ++ g, I, J) _
      simp only [e_B_off_0, e_B_off_1, e_B_off_2, e_B_off_3, e_B_off_6, e_B_off_7, e_B_off_8, e_B_off_11, e_B_off_14, e_B_off_15, e_B_off_16, e_B_off_17, e_B_off_18, e_B_off_21, e_B_off_22, e_B_off_23, e_B_off_26, K_B_isWithin, en, eq_false ha, sh_o_0, pm_opt_some, pm_opt_none, pm_opt_if, Bool.false_eq_true, Bool.not_false, Bool.not_true, if_false, if_true, true_and, and_true, true_or, or_true, not_true_eq_false, not_false_eq_true, q10, q00, q01, q11, pk_v, pk_i, pk_l, pk_r]
    · show pm_V X (d' + 49) 164 0 [some (.ref 82), some (.int a)] [] (pm_S0 ++ g, I1, J) _
      simp only [e_M_off_0, e_M_off_1, e_M_off_2, e_M_off_3, e_M_off_4, e_M_off_7, e_M_off_8, e_M_off_9, e_M_off_12, e_M_off_15, e_M_off_16, e_M_off_17, e_M_off_20, e_M_off_23, e_M_off_24, K_M_in, e9 I1 h1 hR1, eq_false ha, sh_o_82, pm_opt_some, pm_opt_none, pm_opt_if, Bool.false_eq_true, Bool.not_false, Bool.not_true, if_false, if_true, true_and, and_true, true_or, or_true, not_true_eq_false, not_false_eq_true, q10, q00, q01, q11, pk_v, pk_i, pk_l, pk_r]
/-- LIKELY -/
def lkN (F : Nat → Int32) (n : Nat) : Nat := fld (fun i b => if F b ≤ F i then b else i) 1 (n - 1) 0
def lkV (F : Nat → Int32) (n : Nat) : Int32 := if n = 0 then -5 else nI (lkN F n)
theorem ofS_bd (hR : Rel I J) (hh : hol I n) (hX : WX I w fi) : 0 ≤ (ofS I w n).toInt ∧ (ofS I w n).toInt ≤ 3600000 := by
  have hT : ∀ h, Tok (ofT I w h) := by
    intro h
    induction h with
    | zero => exact zT_ok
    | succ h ih =>
      have hs : sfr I (nL I) := nL_sfr
      have := stM_ok (hour := nI h) (warm := wmI I (nI h)) (sfr_WX hs hX) (Rel_MC (Rel_s hs hR)) ih
      have eT : stM (nL I) w (nI h) (wmI I (nI h)) (ofT I w h) = ofT I w (h + 1) := by
        rw [ofT_s, ← sfr_hs hs (WX_is hX)]
        unfold stM hsT stT
        funext k
        rw [lt_no nL_27]
      rw [← eT]
      exact this
  have hK : ∀ h i, i < n → 0 ≤ (ofK I h (ofT I w h) i).toInt ∧ (ofK I h (ofT I w h) i).toInt ≤ 1500 := by
    intro h i hi
    obtain ⟨⟨m1, a1, b1⟩, _, m3, a3, b3⟩ := hh.2.2 i hi
    have ht := thT_bd (hT h m1 a1)
    have e3 : (nI m3).toInt = m3 := nI_toInt (by omega)
    unfold ofK
    rw [b1, nI_clamp (show m1 < 2 ^ 31 by omega), b3]
    split
    · exact absI_bd (by omega) (by omega)
    · rw [k0]
      omega
  have hn := hh.1
  have hB : ∀ h, 0 ≤ h → h < 0 + 240 → 0 ≤ (ofB I w n h).toInt ∧ (ofB I w n h).toInt ≤ (15000 : Nat) := by
    intro h _ _
    have hnm : n * 1500 ≤ 15000 := by omega
    have := sumR_bd (f := ofK I h (ofT I w h)) (M := 1500) n 0 (fun i a b => hK h i (by omega)) (by omega)
    unfold ofB
    omega
  have := sumR_bd (f := ofB I w n) (M := 15000) 240 0 hB (by decide)
  unfold ofS
  omega
theorem B_lk_loop {n q : Nat} (hR : Rel I J) (en : I 0 7 = nI n) (hn : n ≤ 5) (hh : hol I q) : ∀ (r k x : Nat) (T : Nat → T3) (l4 : Option Value), k + r = n → ∃ T', ∀ (d : Nat) (Q : pm_O → Prop), pm_V X (d + 13) 21 8 [some (.ref 0), some (.int (nI x)), some (.int (ofS I (45 + 5 * x) q)), some (.int (nI k)), l4] [] (pm_S0 ++ g, upC I 36 37 38 T 16, J) Q = Q (some (.int (nI (fld (fun i b => if ofS I (45 + 5 * b) q ≤ ofS I (45 + 5 * i) q then b else i) k r x))), (pm_S0 ++ g, upC I 36 37 38 T' 16, J)) := by
  have rd : ∀ (T : Nat → T3), upC I 36 37 38 T 16 0 7 = nI n := fun T => by rw [upC_at (by decide) (by decide) (by decide)]; exact en
  intro r
  induction r with
  | zero =>
    intro k x T l4 hk
    obtain rfl : k = n := by omega
    refine ⟨T, fun d Q => ?_⟩
    rw [e_B_likely_8]
    simp only [e_B_likely_0, e_B_likely_2, e_B_likely_3, e_B_likely_5, e_B_likely_6, e_B_likely_7, e_B_likely_9, e_B_likely_10, e_B_likely_13, e_B_likely_16, e_B_likely_17, e_B_likely_18, e_B_likely_21, e_B_likely_22, e_B_likely_23, e_B_likely_26, e_B_likely_28, e_B_likely_30, e_B_likely_31, e_B_likely_34, e_B_likely_35, e_B_likely_36, e_B_likely_38, e_B_likely_39, e_B_likely_42, e_B_likely_45, e_B_likely_46, sh_o_0, rd, Int32.le_refl, pm_opt_some, pm_opt_none, pm_opt_if, Bool.false_eq_true, Bool.not_false, Bool.not_true, if_false, if_true, true_and, and_true, true_or, or_true, not_true_eq_false, not_false_eq_true, q10, q00, q01, q11, pk_v, pk_i, pk_l, pk_r]
    rfl
  | succ r ih =>
    intro k x T l4 hk
    have hX := Rel_W1 hR en hn (show k < n by omega)
    obtain ⟨T1, hB⟩ := K_B_offOf (X := X) (g := g) (J := J) (T := T) hh (WX_is hX) (WX_ok hX)
    obtain ⟨T2, h2⟩ := ih (k + 1) (if ofS I (45 + 5 * x) q ≤ ofS I (45 + 5 * k) q then x else k) T1 (some (.int (ofS I (45 + 5 * k) q))) (by omega)
    refine ⟨T2, fun d Q => ?_⟩
    have h1 : (nI n ≤ nI k) = False := by
      rw [nI_le_l (by omega) (by omega)]
      exact eq_false (by omega)
    rw [fld, ← h2 d Q, e_B_likely_8]
    simp only [e_B_likely_0, e_B_likely_2, e_B_likely_3, e_B_likely_5, e_B_likely_6, e_B_likely_7, e_B_likely_9, e_B_likely_10, e_B_likely_13, e_B_likely_16, e_B_likely_17, e_B_likely_18, e_B_likely_21, e_B_likely_22, e_B_likely_23, e_B_likely_26, e_B_likely_28, e_B_likely_30, e_B_likely_31, e_B_likely_34, e_B_likely_35, e_B_likely_36, e_B_likely_38, e_B_likely_39, e_B_likely_42, e_B_likely_45, e_B_likely_46, sh_o_0, sh_r_0_6, rd, h1, wn_a (show k < 5 by omega), (isW_at (g := g) (WX_is hX)).1, hB, nI_1, pm_opt_some, pm_opt_none, pm_opt_if, Bool.false_eq_true, Bool.not_false, Bool.not_true, if_false, if_true, true_and, and_true, true_or, or_true, not_true_eq_false, not_false_eq_true, q10, q00, q01, q11, pk_v, pk_i, pk_l, pk_r]
    by_cases z : ofS I (45 + 5 * x) q ≤ ofS I (45 + 5 * k) q
    · simp only [z, pm_opt_some, pm_opt_none, pm_opt_if, Bool.false_eq_true, Bool.not_false, Bool.not_true, if_false, if_true, true_and, and_true, true_or, or_true, not_true_eq_false, not_false_eq_true, q10, q00, q01, q11, pk_v, pk_i, pk_l, pk_r]
    · simp only [z, pm_opt_some, pm_opt_none, pm_opt_if, Bool.false_eq_true, Bool.not_false, Bool.not_true, if_false, if_true, true_and, and_true, true_or, or_true, not_true_eq_false, not_false_eq_true, q10, q00, q01, q11, pk_v, pk_i, pk_l, pk_r]
theorem M_lk_loop {n q : Nat} (hR0 : Rel I J) (en : I 0 7 = nI n) (hn : n ≤ 5) (hh : hol I q) : ∀ (r k x : Nat) (B : Nat → Nat → Int32) (l4 : Option Value), k + r = n → x < n → sfr I B → Rel B J → ∃ B', sfr B B' ∧ ∀ (d : Nat) (Q : pm_O → Prop), pm_V X (d + 13) 165 7 [some (.ref 82), some (.int (nI x)), some (.int (ofS I (45 + 5 * x) q)), some (.int (nI k)), l4] [] (pm_S0 ++ g, B, J) Q = Q (some (.int (nI (fld (fun i b => if ofS I (45 + 5 * b) q ≤ ofS I (45 + 5 * i) q then b else i) k r x))), (pm_S0 ++ g, B', J)) := by
  intro r
  induction r with
  | zero =>
    intro k x B l4 hk hx hs hR
    obtain rfl : k = n := by omega
    have e9 : B 82 9 = nI k := by rw [hR.2.2.1.2.2.2.1, sfr_at hs (q := 0) (by decide)]; exact en
    refine ⟨B, sfr_rf, fun d Q => ?_⟩
    rw [e_M_likely_7]
    simp only [e_M_likely_0, e_M_likely_2, e_M_likely_3, e_M_likely_4, e_M_likely_5, e_M_likely_6, e_M_likely_8, e_M_likely_9, e_M_likely_12, e_M_likely_15, e_M_likely_16, e_M_likely_17, e_M_likely_20, e_M_likely_22, e_M_likely_23, e_M_likely_26, e_M_likely_28, e_M_likely_29, e_M_likely_32, e_M_likely_35, e_M_likely_36, e_M_likely_37, e_M_likely_39, e_M_likely_40, e_M_likely_43, e_M_likely_46, e_M_likely_47, sh_o_82, e9, Int32.le_refl, pm_opt_some, pm_opt_none, pm_opt_if, Bool.false_eq_true, Bool.not_false, Bool.not_true, if_false, if_true, true_and, and_true, true_or, or_true, not_true_eq_false, not_false_eq_true, q10, q00, q01, q11, pk_v, pk_i, pk_l, pk_r]
    rfl
  | succ r ih =>
    intro k x B l4 hk hx hs hR
    have e9 : B 82 9 = nI n := by rw [hR.2.2.1.2.2.2.1, sfr_at hs (q := 0) (by decide)]; exact en
    have hX := Rel_W1 hR0 en hn (show k < n by omega)
    obtain ⟨B1, b1, hM⟩ := K_M_offOf (X := X) (g := g) hs hR hh (sfr_WX hs hX)
    have hy : (if ofS I (45 + 5 * x) q ≤ ofS I (45 + 5 * k) q then x else k) < n := by
      split
      · exact hx
      · omega
    obtain ⟨B2, b2, h2⟩ := ih (k + 1) _ B1 (some (.int (ofS I (45 + 5 * k) q))) (by omega) hy (sfr_tr hs b1) (Rel_s b1 hR)
    refine ⟨B2, sfr_tr b1 b2, fun d Q => ?_⟩
    have h1 : (nI n ≤ nI k) = False := by
      rw [nI_le_l (by omega) (by omega)]
      exact eq_false (by omega)
    have hx0 : (nI x < 0) = False := eq_false (nI_pos (by omega))
    rw [fld, ← h2 d Q, e_M_likely_7]
    simp only [e_M_likely_0, e_M_likely_2, e_M_likely_3, e_M_likely_4, e_M_likely_5, e_M_likely_6, e_M_likely_8, e_M_likely_9, e_M_likely_12, e_M_likely_15, e_M_likely_16, e_M_likely_17, e_M_likely_20, e_M_likely_22, e_M_likely_23, e_M_likely_26, e_M_likely_28, e_M_likely_29, e_M_likely_32, e_M_likely_35, e_M_likely_36, e_M_likely_37, e_M_likely_39, e_M_likely_40, e_M_likely_43, e_M_likely_46, e_M_likely_47, sh_o_82, e9, h1, hM, hx0, nI_1, pm_opt_some, pm_opt_none, pm_opt_if, Bool.false_eq_true, Bool.not_false, Bool.not_true, if_false, if_true, true_and, and_true, true_or, or_true, not_true_eq_false, not_false_eq_true, q10, q00, q01, q11, pk_v, pk_i, pk_l, pk_r]
    by_cases z : ofS I (45 + 5 * k) q < ofS I (45 + 5 * x) q
    · have z' : ¬ ofS I (45 + 5 * x) q ≤ ofS I (45 + 5 * k) q := Int32.not_le.mpr z
      simp only [z, z', pm_opt_some, pm_opt_none, pm_opt_if, Bool.false_eq_true, Bool.not_false, Bool.not_true, if_false, if_true, true_and, and_true, true_or, or_true, not_true_eq_false, not_false_eq_true, q10, q00, q01, q11, pk_v, pk_i, pk_l, pk_r]
    · have z' : ofS I (45 + 5 * x) q ≤ ofS I (45 + 5 * k) q := Int32.not_lt.mp z
      simp only [z, z', pm_opt_some, pm_opt_none, pm_opt_if, Bool.false_eq_true, Bool.not_false, Bool.not_true, if_false, if_true, true_and, and_true, true_or, or_true, not_true_eq_false, not_false_eq_true, q10, q00, q01, q11, pk_v, pk_i, pk_l, pk_r]
theorem Pair_likely (hR : Rel I J) : Pair X 21 165 [] g I J := by
  obtain ⟨n, hn, en⟩ := Rel_wn hR
  obtain ⟨q, hh⟩ := Rel_hol hR
  have e9 : ∀ I1, sfr I I1 → Rel I1 J → I1 82 9 = nI n := fun I1 h1 hR1 => by rw [hR1.2.2.1.2.2.2.1, sfr_at h1 (q := 0) (by decide)]; exact en
  by_cases h0 : n = 0
  · subst h0
    have hz : (nI 0 ≤ 0) = True := by decide
    refine Pair_q (v := .int (-5)) hR ⟨I, sfr_rf, K50 fun d' => ?_⟩ (fun I1 h1 hR1 => ⟨I1, sfr_rf, K50 fun d' => ?_⟩)
    · show pm_V X (d' + 49) 21 0 [some (.ref 0), none, none, none, none] [] (pm_S0 ++ g, I, J) _
      simp only [e_B_likely_0, e_B_likely_2, e_B_likely_3, e_B_likely_5, e_B_likely_6, e_B_likely_7, e_B_likely_8, e_B_likely_9, e_B_likely_10, e_B_likely_13, e_B_likely_16, e_B_likely_17, e_B_likely_18, e_B_likely_21, e_B_likely_22, e_B_likely_23, e_B_likely_26, e_B_likely_28, e_B_likely_30, e_B_likely_31, e_B_likely_34, e_B_likely_35, e_B_likely_36, e_B_likely_38, e_B_likely_39, e_B_likely_42, e_B_likely_45, e_B_likely_46, en, hz, sh_o_0, pm_opt_some, pm_opt_none, pm_opt_if, Bool.false_eq_true, Bool.not_false, Bool.not_true, if_false, if_true, true_and, and_true, true_or, or_true, not_true_eq_false, not_false_eq_true, q10, q00, q01, q11, pk_v, pk_i, pk_l, pk_r]
    · show pm_V X (d' + 49) 165 0 [some (.ref 82), none, none, none, none] [] (pm_S0 ++ g, I1, J) _
      simp only [e_M_likely_0, e_M_likely_2, e_M_likely_3, e_M_likely_4, e_M_likely_5, e_M_likely_6, e_M_likely_7, e_M_likely_8, e_M_likely_9, e_M_likely_12, e_M_likely_15, e_M_likely_16, e_M_likely_17, e_M_likely_20, e_M_likely_22, e_M_likely_23, e_M_likely_26, e_M_likely_28, e_M_likely_29, e_M_likely_32, e_M_likely_35, e_M_likely_36, e_M_likely_37, e_M_likely_39, e_M_likely_40, e_M_likely_43, e_M_likely_46, e_M_likely_47, e9 I1 h1 hR1, hz, sh_o_82, pm_opt_some, pm_opt_none, pm_opt_if, Bool.false_eq_true, Bool.not_false, Bool.not_true, if_false, if_true, true_and, and_true, true_or, or_true, not_true_eq_false, not_false_eq_true, q10, q00, q01, q11, pk_v, pk_i, pk_l, pk_r]
  · have hX := Rel_W1 hR en hn (show 0 < n by omega)
    have hz : (nI n ≤ 0) = False := eq_false (nI_nle (by omega) (by omega))
    refine Pair_q (v := .int (nI (fld (fun i b => if ofS I (45 + 5 * b) q ≤ ofS I (45 + 5 * i) q then b else i) 1 (n - 1) 0))) hR ?_ (fun I1 h1 hR1 => ?_)
    · obtain ⟨T1, hB⟩ := K_B_offOf (X := X) (g := g) (J := J) (T := rowT I 36 37 38) hh (WX_is hX) (WX_ok hX)
      rw [upC_self] at hB
      obtain ⟨T2, h2⟩ := B_lk_loop (X := X) (g := g) hR en hn hh (n - 1) 1 0 T1 (some (.int (ofS I (45 + 5 * 0) q))) (by omega)
      refine ⟨upC I 36 37 38 T2 16, ask_sfr, K50 fun d' => ?_⟩
      have w0 := wn_a (g := g) (j := 0) (by decide)
      have bd := ofS_bd hR hh hX
      have hlt : ((2147483647 : Int32) ≤ ofS I (45 + 5 * 0) q) = False := by
        rw [i_le, show (2147483647 : Int32).toInt = 2147483647 from rfl]
        exact eq_false (by omega)
      have h2' := h2 (d' + 36)
      rw [nI_0] at w0 h2'
      show pm_V X (d' + 49) 21 0 [some (.ref 0), none, none, none, none] [] (pm_S0 ++ g, I, J) _
      simp only [e_B_likely_0, e_B_likely_2, e_B_likely_3, e_B_likely_5, e_B_likely_6, e_B_likely_7]
      rw [e_B_likely_8]
      simp only [e_B_likely_0, e_B_likely_2, e_B_likely_3, e_B_likely_5, e_B_likely_6, e_B_likely_7, e_B_likely_9, e_B_likely_10, e_B_likely_13, e_B_likely_16, e_B_likely_17, e_B_likely_18, e_B_likely_21, e_B_likely_22, e_B_likely_23, e_B_likely_26, e_B_likely_28, e_B_likely_30, e_B_likely_31, e_B_likely_34, e_B_likely_35, e_B_likely_36, e_B_likely_38, e_B_likely_39, e_B_likely_42, e_B_likely_45, e_B_likely_46, en, hz, sh_o_0, sh_r_0_6, w0, (isW_at (g := g) (WX_is hX)).1, hB, hlt, pm_opt_some, pm_opt_none, pm_opt_if, Bool.false_eq_true, Bool.not_false, Bool.not_true, if_false, if_true, true_and, and_true, true_or, or_true, not_true_eq_false, not_false_eq_true, q10, q00, q01, q11, pk_v, pk_i, pk_l, pk_r]
      refine Eq.mpr (h2' _) ?_
      rfl
    · obtain ⟨B1, b1, hM⟩ := K_M_offOf (X := X) (g := g) h1 hR1 hh (sfr_WX h1 hX)
      obtain ⟨B2, b2, h2⟩ := M_lk_loop (X := X) (g := g) hR en hn hh (n - 1) 1 0 B1 (some (.int (ofS I (45 + 5 * 0) q))) (by omega) (by omega) (sfr_tr h1 b1) (Rel_s b1 hR1)
      refine ⟨B2, sfr_tr b1 b2, K50 fun d' => ?_⟩
      have h2' := h2 (d' + 36)
      have m5 : ((-5 : Int32) < 0) = True := by decide
      rw [nI_0] at h2' hM
      show pm_V X (d' + 49) 165 0 [some (.ref 82), none, none, none, none] [] (pm_S0 ++ g, I1, J) _
      simp only [e_M_likely_0, e_M_likely_2, e_M_likely_3, e_M_likely_4, e_M_likely_5, e_M_likely_6]
      rw [e_M_likely_7]
      simp only [e_M_likely_0, e_M_likely_2, e_M_likely_3, e_M_likely_4, e_M_likely_5, e_M_likely_6, e_M_likely_8, e_M_likely_9, e_M_likely_12, e_M_likely_15, e_M_likely_16, e_M_likely_17, e_M_likely_20, e_M_likely_22, e_M_likely_23, e_M_likely_26, e_M_likely_28, e_M_likely_29, e_M_likely_32, e_M_likely_35, e_M_likely_36, e_M_likely_37, e_M_likely_39, e_M_likely_40, e_M_likely_43, e_M_likely_46, e_M_likely_47, e9 I1 h1 hR1, hz, sh_o_82, hM, m5, pm_opt_some, pm_opt_none, pm_opt_if, Bool.false_eq_true, Bool.not_false, Bool.not_true, if_false, if_true, true_and, and_true, true_or, or_true, not_true_eq_false, not_false_eq_true, q10, q00, q01, q11, pk_v, pk_i, pk_l, pk_r]
      refine Eq.mpr (h2' _) ?_
      rfl
end P55
