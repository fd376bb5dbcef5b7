/-! pairs of calls: winter -/
abbrev okQ (q : Nat) : Prop := (q < 45 ∧ ¬ q = 0 ∧ ¬ q = 1) ∨ (70 ≤ q ∧ q ≤ 90 ∧ ¬ q = 82) ∨ (98 ≤ q ∧ q < 123)
section P84
variable {X : pm_X} {d : Nat} {P Q : pm_O → Prop} {g : List pm_S} {I I2 : Nat → Nat → Int32} {J J2 : Nat → Nat → Int64} {f f' : Nat} {y : Int32}
theorem Rel_win (hR : Rel I J) (ef : I 0 7 = nI f) (hf : f ≤ f') (hf5 : f' ≤ 5) (all : ∀ q, okQ q → I2 q = I q) (z0 : ∀ k, ¬ k = 4 → ¬ k = 7 → I2 0 k = I 0 k) (z04 : I2 0 4 = 0) (z07 : I2 0 7 = nI f') (z1 : ∀ k, ¬ k = 11 → I2 1 k = I 1 k) (z1b : I2 1 11 = y) (z82 : ∀ k, SF.contains k = false → ¬ k = 9 → ¬ k = 10 → ¬ k = 11 → I2 82 k = I 82 k) (z829 : I2 82 9 = nI f') (z8210 : I2 82 10 = y) (z8211 : I2 82 11 = 0) (hW : RW I2) (hl : y = -1 ∨ ∃ a n, y = nI a ∧ nI f' = nI n ∧ n ≤ 5 ∧ a < n) (hJ : ∀ q, q < 123 → J2 q = J q) : Rel I2 J2 := by
  obtain ⟨r1, r2, r3, r4, r5, r6, r7, r8⟩ := id hR
  refine ⟨?_, ?_, ?_, ?_, ?_, hW, ?_, ?_⟩
  · unfold REn at r1 ⊢
    simp only [all 83 (by decide), all 84 (by decide), all 85 (by decide), all 86 (by decide), all 87 (by decide), all 88 (by decide), all 89 (by decide), all 105 (by decide), all 106 (by decide), all 107 (by decide), all 3 (by decide), all 4 (by decide), all 5 (by decide), all 6 (by decide), all 7 (by decide), all 8 (by decide), all 9 (by decide), all 10 (by decide), all 11 (by decide), all 12 (by decide), z1 4 (by decide), z1 5 (by decide), z1 10 (by decide), z1b, z82 0 (by decide) (by decide) (by decide) (by decide), z82 1 (by decide) (by decide) (by decide) (by decide), z82 34 (by decide) (by decide) (by decide) (by decide), z8210]
    exact ⟨r1.1, r1.2.1, r1.2.2.1, r1.2.2.2.1, trivial⟩
  · unfold REk at r2 ⊢
    simp only [all 108 (by decide), all 109 (by decide), all 110 (by decide), all 111 (by decide), all 112 (by decide), all 113 (by decide), all 114 (by decide), all 115 (by decide), all 116 (by decide), all 117 (by decide), all 15 (by decide), all 16 (by decide), all 17 (by decide), all 18 (by decide), all 19 (by decide), all 20 (by decide), all 21 (by decide), all 22 (by decide), all 23 (by decide), all 24 (by decide), all 13 (by decide), z82 40 (by decide) (by decide) (by decide) (by decide), z82 41 (by decide) (by decide) (by decide) (by decide), z82 42 (by decide) (by decide) (by decide) (by decide), z82 39 (by decide) (by decide) (by decide) (by decide)]
    exact r2
  · unfold REo at r3 ⊢
    simp only [all 90 (by decide), all 118 (by decide), all 25 (by decide), all 34 (by decide), all 33 (by decide), z82 38 (by decide) (by decide) (by decide) (by decide), z82 53 (by decide) (by decide) (by decide) (by decide), z8211, z829, z0 2 (by decide) (by decide), z04, z07]
    exact ⟨r3.1, r3.2.1, trivial, trivial, r3.2.2.2.2⟩
  · unfold RBn pB at r4 ⊢
    simp only [all 3 (by decide), all 4 (by decide), all 5 (by decide), all 6 (by decide), all 7 (by decide), all 8 (by decide), all 9 (by decide), all 10 (by decide), all 11 (by decide), all 12 (by decide), z1 4 (by decide), z1 10 (by decide), z1b, z07]
    exact ⟨r4.1, r4.2.1, r4.2.2.1, r4.2.2.2.1, r4.2.2.2.2.1, r4.2.2.2.2.2.1, r4.2.2.2.2.2.2.1, hl⟩
  · unfold RBk pB at r5 ⊢
    simp only [all 15 (by decide), all 16 (by decide), all 17 (by decide), all 18 (by decide), all 19 (by decide), all 20 (by decide), all 21 (by decide), all 22 (by decide), all 23 (by decide), all 24 (by decide), all 13 (by decide), z07]
    refine ⟨r5.1, r5.2.1, r5.2.2.1, r5.2.2.2.1, r5.2.2.2.2.1, r5.2.2.2.2.2.1, r5.2.2.2.2.2.2.1, ?_⟩
    rcases r5.2.2.2.2.2.2.2 with h | ⟨a, n, h1, h2, h3, h4⟩
    · exact Or.inl h
    · have : f = n := (nI_eq (by obtain ⟨_, m, hm, e, _⟩ := r6; omega) (by omega)).mp (ef.symm.trans h2)
      exact Or.inr ⟨a, f', h1, rfl, hf5, by omega⟩
  · unfold RX at r7 ⊢
    simp only [all 25 (by decide), all 33 (by decide), z0 2 (by decide) (by decide), z04]
    exact ⟨⟨0, by decide, rfl⟩, r7.2⟩
  · exact RT_fr (fun q h1 h2 => all q (by omega)) (all 119 (by decide)) (all 120 (by decide)) (fun q h1 h2 => hJ q (by omega)) (hJ 121 (by decide)) r8
theorem Pair_winter (hg : g.length ≤ 600) (hr : gOK g) (hR : Rel I J) : Pair X 6 131 [] g I J := by
  obtain ⟨r1, r2, r3, r4, r5, r6, r7, r8⟩ := id hR
  obtain ⟨⟨n, hn, en⟩, htx, hk01, hran⟩ := id r7
  obtain ⟨w0, f, hf5, ef, hW⟩ := id r6
  have e9 : I 82 9 = nI f := r3.2.2.2.1.trans ef
  by_cases hf : f < 5
  · obtain ⟨B1, L, b1, b2, b3⟩ := B_winter_run (X := X) (J := J) hg hr hf ef hn en htx
    have i1 : ∀ ok q, (q < 45 + 5 * f ∨ 45 + 5 * f + 4 < q) → ¬ q = 123 + g.length → ¬ q = 0 → ¬ q = 1 → wH B1 f ok q = I q := by
      intro ok q h1 h2 h3 h4
      rw [← b1 q h1 h2]
      unfold wH
      split
      · rw [pw_ne h3, pw_ne h4, pw_ne h3]
      · rw [pw_ne h3]
    have i82 := fun ok => i1 ok 82 (by omega) (by omega) (by decide) (by decide)
    have i90 : ∀ ok, wH B1 f ok 90 = I 25 := fun ok => (i1 ok 90 (by omega) (by omega) (by decide) (by decide)).trans r3.1.1
    obtain ⟨B2, sg, m1, m2, m3, m4, m5, m6, m7⟩ := M_winter_run (X := X) (g := g ++ [(0, 6, rsW (45 + 5 * f))]) (J := pm_upJ J (123 + g.length) (fun _ => 0)) (H := wH B1 f (pW (I 25) n 10 0 0).1) (n := n) hf (by rw [i82]; exact e9) ⟨by rw [i82]; exact r3.2.2.1.trans en, hn⟩
    rw [i90] at m6 m7
    have good := pW_ok (T := I 25) (n := n) 10 0 0 (Nat.zero_le _) (Nat.le_refl _)
    have hJ : ∀ q, q < 123 → pm_upJ J (123 + g.length) (fun _ => 0) q = J q := by
      intro q hq
      unfold pm_upJ
      rw [if_neg (by omega)]
    have hgr : pm_grw g (g ++ [(0, 6, rsW (45 + 5 * f))]) := by
      refine Or.inr ⟨rsW (45 + 5 * f), ?_, rfl⟩
      match f, hf with
      | 0, _ => rfl
      | 1, _ => rfl
      | 2, _ => rfl
      | 3, _ => rfl
      | 4, _ => rfl
    generalize pW (I 25) n 10 0 0 = r at *
    refine ⟨.int (wA f r), _, _, _, _, _, ?_, hgr, rfl, b3, m7⟩
    obtain ⟨ok, p', cls⟩ := r
    dsimp only at *
    -- what no call of winter() writes
    have old : ∀ I2 : Nat → Nat → Int32, (∀ q, ¬ q = 82 → I2 q = B2 q) → ∀ a, a < f → WR I2 (45 + 5 * a) a ∧ WB I2 a := by
      intro I2 hI2 a ha
      refine WR_old (I := I) (by omega) (fun i hi => ?_) ?_ (fun i hi => ?_) (fun i hi => ?_) (hW a ha).1 (hW a ha).2
      · rw [hI2 _ (by omega), m2 _ (by omega) (by omega) (by omega) (by omega) (by omega) (by omega) (by omega) (by omega)]
        exact i1 ok _ (by omega) (by omega) (by omega) (by omega)
      · rw [hI2 _ (by decide), m3 _ (by omega), i1 ok _ (by omega) (by omega) (by decide) (by decide)]
      · rw [hI2 92 (by decide), hI2 93 (by decide), hI2 94 (by decide), hI2 95 (by decide)]
        obtain ⟨c1, c2, c3, c4⟩ := m4 i (by omega)
        rw [c1, c2, c3, c4, i1 ok 92 (by omega) (by omega) (by decide) (by decide), i1 ok 93 (by omega) (by omega) (by decide) (by decide), i1 ok 94 (by omega) (by omega) (by decide) (by decide), i1 ok 95 (by omega) (by omega) (by decide) (by decide)]
        exact ⟨rfl, rfl, rfl, rfl⟩
      · rw [hI2 96 (by decide), m5 i (by omega), i1 ok 96 (by omega) (by omega) (by decide) (by decide)]
    have alq : ∀ I2 : Nat → Nat → Int32, (∀ q, ¬ q = 82 → I2 q = B2 q) → ∀ q, okQ q → I2 q = I q := by
      intro I2 hI2 q hq
      rw [hI2 q (by omega), m2 q (by omega) (by omega) (by omega) (by omega) (by omega) (by omega) (by omega) (by omega)]
      exact i1 ok q (by omega) (by omega) (by omega) (by omega)
    have B0 : B1 0 = I 0 := b1 0 (by omega) (by omega)
    have B1' : B1 1 = I 1 := b1 1 (by omega) (by omega)
    have m82 : ∀ k, SF.contains k = false → B2 82 k = I 82 k := fun k hk => by rw [m1 k hk, i82]
    cases ok with
    | false =>
      have hI2 : ∀ q, ¬ q = 82 → wHM B2 f false q = B2 q := fun q hq => pw_ne hq
      have c0 : wHM B2 f false 0 = pm_w B1 0 4 0 0 := (hI2 0 (by decide)).trans (m2 0 (by decide) (by decide) (by decide) (by decide) (by decide) (by decide) (by decide) (by decide))
      have c1 : wHM B2 f false 1 = pm_w B1 0 4 0 1 := (hI2 1 (by decide)).trans (m2 1 (by decide) (by decide) (by decide) (by decide) (by decide) (by decide) (by decide) (by decide))
      have c82 : ∀ k, ¬ k = 11 → wHM B2 f false 82 k = B2 82 k := fun k hk => by
        show pm_w B2 82 11 0 82 k = _
        rw [pw_eq, upd_app, if_neg hk]
      have c8211 : wHM B2 f false 82 11 = 0 := by
        show pm_w B2 82 11 0 82 11 = _
        rw [pw_eq, upd_app, if_pos rfl]
      have al := alq _ hI2
      have ol := old _ hI2
      have z04 : wHM B2 f false 0 4 = 0 := by rw [c0, pw_eq, upd_app, if_pos rfl]
      have z0 : ∀ k, ¬ k = 4 → wHM B2 f false 0 k = I 0 k := fun k hk => by rw [c0, pw_eq, upd_app, if_neg hk, B0]
      have z1 : wHM B2 f false 1 = I 1 := by rw [c1, pw_ne (by decide), B1']
      refine Rel_win (f' := f) (y := I 1 11) hR ef (Nat.le_refl _) (by omega) al (fun k h1 _ => z0 k h1) z04 ((z0 7 (by decide)).trans ef) (fun k _ => by rw [z1]) (by rw [z1]) (fun k h1 h2 h3 h4 => (c82 k h4).trans (m82 k h1)) ((c82 9 (by decide)).trans ((m82 9 (by decide)).trans e9)) ((c82 10 (by decide)).trans ((m82 10 (by decide)).trans r1.2.2.2.2)) c8211 ⟨by rw [al 26 (by decide)]; exact w0, f, hf5, (z0 7 (by decide)).trans ef, ol⟩ ?_ hJ
      rcases r4.2.2.2.2.2.2.2 with h | ⟨a, m, h1, h2, h3, h4⟩
      · exact Or.inl h
      · exact Or.inr ⟨a, m, h1, ef.symm.trans h2, h3, h4⟩
    | true =>
      have hI2 : ∀ q, ¬ q = 82 → wHM B2 f true q = B2 q := fun q hq => by
        show pm_w (pm_w (pm_w B2 82 11 0) 82 10 (nI f)) 82 9 (nI (f + 1)) q = _
        rw [pw_ne hq, pw_ne hq, pw_ne hq]
      have c0 : wHM B2 f true 0 = pm_w (pm_w (pm_w B1 0 4 0) 1 11 (nI f)) 0 7 (nI (f + 1)) 0 := (hI2 0 (by decide)).trans (m2 0 (by decide) (by decide) (by decide) (by decide) (by decide) (by decide) (by decide) (by decide))
      have c1 : wHM B2 f true 1 = pm_w (pm_w (pm_w B1 0 4 0) 1 11 (nI f)) 0 7 (nI (f + 1)) 1 := (hI2 1 (by decide)).trans (m2 1 (by decide) (by decide) (by decide) (by decide) (by decide) (by decide) (by decide) (by decide))
      have cw : ∀ q, 45 ≤ q → q ≤ 69 → wHM B2 f true q = B1 q := fun q h1 h2 => by
        rw [hI2 q (by omega), m2 q (by omega) (by omega) (by omega) (by omega) (by omega) (by omega) (by omega) (by omega)]
        show pm_w (pm_w (pm_w B1 0 4 0) 1 11 (nI f)) 0 7 (nI (f + 1)) q = _
        rw [pw_ne (by omega), pw_ne (by omega), pw_ne (by omega)]
      have c82 : ∀ k, ¬ k = 9 → ¬ k = 10 → ¬ k = 11 → wHM B2 f true 82 k = B2 82 k := fun k h1 h2 h3 => by
        show pm_w (pm_w (pm_w B2 82 11 0) 82 10 (nI f)) 82 9 (nI (f + 1)) 82 k = _
        rw [pw_eq, upd_app, if_neg h1, pw_eq, upd_app, if_neg h2, pw_eq, upd_app, if_neg h3]
      have c829 : wHM B2 f true 82 9 = nI (f + 1) := by
        show pm_w (pm_w (pm_w B2 82 11 0) 82 10 (nI f)) 82 9 (nI (f + 1)) 82 9 = _
        rw [pw_eq, upd_app, if_pos rfl]
      have c8210 : wHM B2 f true 82 10 = nI f := by
        show pm_w (pm_w (pm_w B2 82 11 0) 82 10 (nI f)) 82 9 (nI (f + 1)) 82 10 = _
        rw [pw_eq, upd_app, if_neg (by decide), pw_eq, upd_app, if_pos rfl]
      have c8211 : wHM B2 f true 82 11 = 0 := by
        show pm_w (pm_w (pm_w B2 82 11 0) 82 10 (nI f)) 82 9 (nI (f + 1)) 82 11 = _
        rw [pw_eq, upd_app, if_neg (by decide), pw_eq, upd_app, if_neg (by decide), pw_eq, upd_app, if_pos rfl]
      have al := alq _ hI2
      have ol := old _ hI2
      have z04 : wHM B2 f true 0 4 = 0 := by rw [c0, pw_eq, upd_app, if_neg (by decide), pw_ne (by decide), pw_eq, upd_app, if_pos rfl]
      have z07 : wHM B2 f true 0 7 = nI (f + 1) := by rw [c0, pw_eq, upd_app, if_pos rfl]
      have z0 : ∀ k, ¬ k = 4 → ¬ k = 7 → wHM B2 f true 0 k = I 0 k := fun k h4 h7 => by rw [c0, pw_eq, upd_app, if_neg h7, pw_ne (by decide), pw_eq, upd_app, if_neg h4, B0]
      have z1 : ∀ k, ¬ k = 11 → wHM B2 f true 1 k = I 1 k := fun k hk => by rw [c1, pw_ne (by decide), pw_eq, upd_app, if_neg hk, pw_ne (by decide), B1']
      have z1b : wHM B2 f true 1 11 = nI f := by rw [c1, pw_ne (by decide), pw_eq, upd_app, if_pos rfl]
      obtain ⟨g1, g2⟩ := good rfl
      obtain ⟨n1, n2⟩ := m6 rfl
      have hC : WC (wHM B2 f true) (45 + 5 * f) L (wHM B2 f true (45 + 5 * f + 4)) cls := by
        have := b2 rfl
        unfold WC at this ⊢
        rw [cw (45 + 5 * f) (by omega) (by omega), cw (45 + 5 * f + 1) (by omega) (by omega), cw (45 + 5 * f + 2) (by omega) (by omega), cw (45 + 5 * f + 3) (by omega) (by omega), cw (45 + 5 * f + 4) (by omega) (by omega)]
        exact this
      have hM : WM (wHM B2 f true) (wHM B2 f true 96) (wHM B2 f true 95) f sg cls := by
        unfold WM at n1 ⊢
        rw [hI2 92 (by decide), hI2 93 (by decide), hI2 94 (by decide), hI2 95 (by decide), hI2 96 (by decide)]
        exact n1
      have new := WR_new hf hn g1 g2 hC hM (by rw [hI2 91 (by decide)]; exact n2)
      refine Rel_win (f' := f + 1) (y := nI f) hR ef (by omega) (by omega) al z0 z04 z07 z1 z1b (fun k h1 h2 h3 h4 => (c82 k h2 h3 h4).trans (m82 k h1)) c829 c8210 c8211 ⟨by rw [al 26 (by decide)]; exact w0, f + 1, by omega, z07, fun a ha => ?_⟩ (Or.inr ⟨f, f + 1, rfl, rfl, by omega, by omega⟩) hJ
      by_cases e : a = f
      · rw [e]
        exact new
      · exact ol a (by omega)
  · obtain rfl : f = 5 := by omega
    have lt : (nI 5 < 5) = False := by decide
    have eq5 : (nI 5 = 5) = True := eq_true rfl
    refine Pair_q (v := .int (-4)) hR ⟨I, sfr_rf, K50 fun d' => ?_⟩ (fun I1 h1 hR1 => ⟨I1, sfr_rf, K50 fun d' => ?_⟩)
    · show pm_V X (d' + 49) 6 0 [some (.ref 0), none, none] [] (pm_S0 ++ g, I, J) _
      simp only [e_B_winter_0, e_B_winter_1, e_B_winter_4, e_B_winter_5, e_B_winter_8, e_B_winter_10, e_B_winter_14, e_B_winter_15, e_B_winter_16, e_B_winter_19, e_B_winter_20, e_B_winter_23, e_B_winter_24, e_B_winter_27, e_B_winter_28, e_B_winter_31, e_B_winter_32, e_B_winter_35, e_B_winter_36, e_B_winter_37, e_B_winter_40, e_B_winter_41, e_B_winter_42, e_B_winter_43, e_B_winter_46, e_B_winter_47, e_B_winter_50, e_B_winter_52, e_B_winter_53, e_B_winter_56, e_B_winter_57, e_B_winter_58, e_B_winter_59, e_B_winter_62, e_B_winter_63, e_B_winter_66, e_B_winter_69, e_B_winter_70, e_B_winter_71, e_B_winter_74, e_B_winter_75, e_B_winter_76, e_B_winter_79, e_B_winter_80, e_B_winter_83, e_B_winter_86, sh_o_0, ef, lt, pm_opt_some, pm_opt_none, pm_opt_if, Bool.false_eq_true, Bool.not_false, Bool.not_true, if_false, if_true, true_and, and_true, true_or, or_true, not_true_eq_false, not_false_eq_true, q10, q00, q01, q11, pk_v, pk_i, pk_l, pk_r]
    · have e' : I1 82 9 = nI 5 := (sfr_82 h1 (by decide)).trans e9
      show pm_V X (d' + 49) 131 0 [some (.ref 82), none] [] (pm_S0 ++ g, I1, J) _
      simp only [e_M_winter_0, e_M_winter_1, e_M_winter_4, e_M_winter_5, e_M_winter_8, e_M_winter_10, e_M_winter_12, e_M_winter_13, e_M_winter_16, e_M_winter_19, e_M_winter_20, e_M_winter_21, e_M_winter_22, e_M_winter_25, e_M_winter_26, e_M_winter_29, e_M_winter_31, e_M_winter_32, e_M_winter_35, e_M_winter_36, e_M_winter_37, e_M_winter_38, e_M_winter_39, e_M_winter_42, e_M_winter_45, e_M_winter_46, e_M_winter_47, e_M_winter_50, e_M_winter_51, e_M_winter_52, e_M_winter_55, e_M_winter_56, e_M_winter_59, sh_o_82, e', eq5, pm_opt_some, pm_opt_none, pm_opt_if, Bool.false_eq_true, Bool.not_false, Bool.not_true, if_false, if_true, true_and, and_true, true_or, or_true, not_true_eq_false, not_false_eq_true, q10, q00, q01, q11, pk_v, pk_i, pk_l, pk_r]
end P84
