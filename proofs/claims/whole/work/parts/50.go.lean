/-! pairs of calls: go, feed -/
section P50
variable {X : pm_X} {d : Nat} {P Q : pm_O → Prop} {g : List pm_S} {S : List pm_S} {I I' I1 B : Nat → Nat → Int32} {J J' : Nat → Nat → Int64} {j w t l : Nat} {c a b s n k i : Int32} {v : Int64} {fi : Int32} {p : Nat → Int32} {T : Nat → T3}
theorem K_M_asIs0 : pm_cl X (d + 1) 138 [.ref 82] (pm_S0 ++ g, I, J) P = P (none, (pm_S0 ++ g, MS (nL I) (rowT I 83 84 85) (I 82 0) (I 98), J)) := by
  refine K_of (k := 0) (fun d' => ?_)
  show pm_V X d' 138 0 [some (.ref 82), none] [] (pm_S0 ++ g, I, J) _
  have L := fun (Q : pm_O → Prop) => pm_lp0 (fun k => pm_V X d' 138 15 [some (.ref 82), some (.int (nI k))] [] (pm_S0 ++ g, upC (pm_w (pm_w I 82 26 (I 82 0)) 82 27 (-1)) 99 100 101 (rowT I 83 84 85) k, J) Q) 16 (by
    intro k hk
    have h1 : ((16 : Int32) ≤ nI k) = False := by
      rw [show (16 : Int32) = nI 16 from rfl, nI_le_l (by omega) (by omega)]
      exact eq_false (by omega)
    have hb := bad_nI (k := k) (n := 16) hk (by decide)
    have hc := nI_clamp (n := k) (by omega)
    have es := upC_s (I := pm_w (pm_w I 82 26 (I 82 0)) 82 27 (-1)) (n := k) (f := rowT I 83 84 85) (a := 99) (b := 100) (c := 101) (by decide) (by decide) (by decide)
    have rd : ∀ q, ¬ q = 82 → ¬ q = 99 → ¬ q = 100 → ¬ q = 101 → upC (pm_w (pm_w I 82 26 (I 82 0)) 82 27 (-1)) 99 100 101 (rowT I 83 84 85) k q = I q := by
      intro q a1 a2 a3 a4
      funext i
      rw [upC_ne a2 a3 a4, pw_ne a1, pw_ne a1]
    show pm_V X d' 138 15 [some (.ref 82), some (.int (nI k))] [] (pm_S0 ++ g, upC (pm_w (pm_w I 82 26 (I 82 0)) 82 27 (-1)) 99 100 101 (rowT I 83 84 85) k, J) Q = _
    rw [← es, e_M_asIs_15]
    have i3 := p3_id (I := upC (pm_w (pm_w I 82 26 (I 82 0)) 82 27 (-1)) 99 100 101 (rowT I 83 84 85) k) (a := 99) (b := 100) (c := 101) (j := k) (by decide) (by decide) (by decide)
    have n1 : (99 : Nat) ≠ 100 := by decide
    have n2 : (99 : Nat) ≠ 101 := by decide
    have n3 : (100 : Nat) ≠ 101 := by decide
    rw [← i3]
    have r2 : ∀ {x y z : Int32} (q : Nat), ¬ q = 82 → ¬ q = 99 → ¬ q = 100 → ¬ q = 101 → pm_3 (upC (pm_w (pm_w I 82 26 (I 82 0)) 82 27 (-1)) 99 100 101 (rowT I 83 84 85) k) 99 100 101 k x y z q = I q := fun q a1 a2 a3 a4 => (p3_ne a2 a3 a4).trans (rd q a1 a2 a3 a4)
    simp only [e_M_asIs_0, e_M_asIs_1, e_M_asIs_2, e_M_asIs_5, e_M_asIs_8, e_M_asIs_9, e_M_asIs_10, e_M_asIs_13, e_M_asIs_14, e_M_asIs_16, e_M_asIs_18, e_M_asIs_21, e_M_asIs_22, e_M_asIs_25, e_M_asIs_26, e_M_asIs_27, e_M_asIs_30, e_M_asIs_31, e_M_asIs_32, e_M_asIs_33, e_M_asIs_34, e_M_asIs_37, e_M_asIs_38, e_M_asIs_39, e_M_asIs_42, e_M_asIs_43, e_M_asIs_44, e_M_asIs_45, e_M_asIs_46, e_M_asIs_49, e_M_asIs_50, e_M_asIs_51, e_M_asIs_54, e_M_asIs_55, e_M_asIs_56, e_M_asIs_57, e_M_asIs_60, e_M_asIs_63, h1, sh_r_82_2, sh_r_82_3, sh_r_82_4, sh_r_82_28, sh_r_82_29, sh_r_82_30, sh_i_83, sh_i_84, sh_i_85, sh_w_99, sh_w_100, sh_w_101, hb, hc, r2 83 (by decide) (by decide) (by decide) (by decide), r2 84 (by decide) (by decide) (by decide) (by decide), r2 85 (by decide) (by decide) (by decide) (by decide), p3_wa, p3_wb n1, p3_wc n2 n3, nI_1, pm_opt_some, pm_opt_none, pm_opt_if, Bool.false_eq_true, Bool.not_false, Bool.not_true, if_false, if_true, true_and, and_true, true_or, or_true, not_true_eq_false, not_false_eq_true, q10, q00, q01, q11, pk_v, pk_i, pk_l, pk_r]
    rw [i3]
    rfl) 16 0 (by omega)
  simp only [upC_0, nI_0] at L
  have h16 : ((16 : Int32) ≤ nI 16) = True := by decide
  simp only [e_M_asIs_0, e_M_asIs_1, e_M_asIs_2, e_M_asIs_5, e_M_asIs_8, e_M_asIs_9, e_M_asIs_10, e_M_asIs_13, e_M_asIs_14, e_M_asIs_16, e_M_asIs_18, e_M_asIs_21, e_M_asIs_22, e_M_asIs_25, e_M_asIs_26, e_M_asIs_27, e_M_asIs_30, e_M_asIs_31, e_M_asIs_32, e_M_asIs_33, e_M_asIs_34, e_M_asIs_37, e_M_asIs_38, e_M_asIs_39, e_M_asIs_42, e_M_asIs_43, e_M_asIs_44, e_M_asIs_45, e_M_asIs_46, e_M_asIs_49, e_M_asIs_50, e_M_asIs_51, e_M_asIs_54, e_M_asIs_55, e_M_asIs_56, e_M_asIs_57, e_M_asIs_60, e_M_asIs_63, sh_o_82, pm_opt_some, pm_opt_none, pm_opt_if, Bool.false_eq_true, Bool.not_false, Bool.not_true, if_false, if_true, true_and, and_true, true_or, or_true, not_true_eq_false, not_false_eq_true, q10, q00, q01, q11, pk_v, pk_i, pk_l, pk_r]
  rw [L]
  simp only [e_M_asIs_0, e_M_asIs_1, e_M_asIs_2, e_M_asIs_5, e_M_asIs_8, e_M_asIs_9, e_M_asIs_10, e_M_asIs_13, e_M_asIs_14, e_M_asIs_15, e_M_asIs_16, e_M_asIs_18, e_M_asIs_21, e_M_asIs_22, e_M_asIs_25, e_M_asIs_26, e_M_asIs_27, e_M_asIs_30, e_M_asIs_31, e_M_asIs_32, e_M_asIs_33, e_M_asIs_34, e_M_asIs_37, e_M_asIs_38, e_M_asIs_39, e_M_asIs_42, e_M_asIs_43, e_M_asIs_44, e_M_asIs_45, e_M_asIs_46, e_M_asIs_49, e_M_asIs_50, e_M_asIs_51, e_M_asIs_54, e_M_asIs_55, e_M_asIs_56, e_M_asIs_57, e_M_asIs_60, e_M_asIs_63, h16, pm_opt_some, pm_opt_none, pm_opt_if, Bool.false_eq_true, Bool.not_false, Bool.not_true, if_false, if_true, true_and, and_true, true_or, or_true, not_true_eq_false, not_false_eq_true, q10, q00, q01, q11, pk_v, pk_i, pk_l, pk_r]
  congr 3
  unfold MS nL
  rw [show I 98 = pm_w (pm_w I 82 27 (-1)) 82 26 (I 82 0) 98 by simp only [pw_eq, pw_ne, pu_eq, pu_ne, upd_app, Nat.reduceEqDiff, not_false_eq_true, if_false, if_true], pu_self]
  congr 1
  funext q i
  simp only [pm_w_app]
  by_cases q1 : q = 82
  · by_cases q2 : i = 27
    · subst q2
      simp [q1]
    · simp [q1, q2]
  · simp [q1]
theorem T3_ext {t u : T3} (h1 : t.1 = u.1) (h2 : t.2.1 = u.2.1) (h3 : t.2.2 = u.2.2) : t = u := by
  obtain ⟨a, b, c⟩ := t
  obtain ⟨a', b', c'⟩ := u
  simp only at h1 h2 h3
  rw [h1, h2, h3]
/-- the reference's rows become those that it asked -/
theorem M_go_loop : ∀ (d : Nat) (Q : pm_O → Prop), pm_V X d 153 49 [some (.ref 82), some (.int a), some (.int 0)] [] (pm_S0 ++ g, I, J) Q = Q (some (.int (I 82 0)), (pm_S0 ++ g, upC I 83 84 85 (rowT I 99 100 101) 16, J)) := by
  intro d Q
  have L := pm_lp0 (fun k => pm_V X d 153 49 [some (.ref 82), some (.int a), some (.int (nI k))] [] (pm_S0 ++ g, upC I 83 84 85 (rowT I 99 100 101) k, J) Q) 16 (by
    intro k hk
    have h1 : ((16 : Int32) ≤ nI k) = False := by
      rw [show (16 : Int32) = nI 16 from rfl, nI_le_l (by omega) (by omega)]
      exact eq_false (by omega)
    have hb := bad_nI (k := k) (n := 16) hk (by decide)
    have hc := nI_clamp (n := k) (by omega)
    have es := upC_s (I := I) (n := k) (f := rowT I 99 100 101) (a := 83) (b := 84) (c := 85) (by decide) (by decide) (by decide)
    have i3 := p3_id (I := upC I 83 84 85 (rowT I 99 100 101) k) (a := 83) (b := 84) (c := 85) (j := k) (by decide) (by decide) (by decide)
    have n1 : (83 : Nat) ≠ 84 := by decide
    have n2 : (83 : Nat) ≠ 85 := by decide
    have n3 : (84 : Nat) ≠ 85 := by decide
    have rd : ∀ {x y z : Int32} (q : Nat), ¬ q = 83 → ¬ q = 84 → ¬ q = 85 → pm_3 (upC I 83 84 85 (rowT I 99 100 101) k) 83 84 85 k x y z q = I q := by
      intro x y z q a2 a3 a4
      rw [p3_ne a2 a3 a4]
      funext i
      exact upC_ne a2 a3 a4
    show pm_V X d 153 49 [some (.ref 82), some (.int a), some (.int (nI k))] [] (pm_S0 ++ g, upC I 83 84 85 (rowT I 99 100 101) k, J) Q = _
    rw [← es, e_M_go_49, ← i3]
    simp only [e_M_go_0, e_M_go_1, e_M_go_2, e_M_go_3, e_M_go_6, e_M_go_9, e_M_go_12, e_M_go_14, e_M_go_15, e_M_go_16, e_M_go_19, e_M_go_20, e_M_go_21, e_M_go_24, e_M_go_27, e_M_go_29, e_M_go_30, e_M_go_31, e_M_go_34, e_M_go_35, e_M_go_36, e_M_go_39, e_M_go_40, e_M_go_41, e_M_go_44, e_M_go_47, e_M_go_48, e_M_go_50, e_M_go_52, e_M_go_55, e_M_go_56, e_M_go_59, e_M_go_60, e_M_go_61, e_M_go_64, e_M_go_65, e_M_go_66, e_M_go_67, e_M_go_68, e_M_go_71, e_M_go_72, e_M_go_73, e_M_go_76, e_M_go_77, e_M_go_78, e_M_go_79, e_M_go_80, e_M_go_83, e_M_go_84, e_M_go_85, e_M_go_88, e_M_go_89, e_M_go_90, e_M_go_91, e_M_go_94, e_M_go_97, e_M_go_98, e_M_go_101, h1, sh_r_82_2, sh_r_82_3, sh_r_82_4, sh_r_82_28, sh_r_82_29, sh_r_82_30, sh_i_99, sh_i_100, sh_i_101, sh_w_83, sh_w_84, sh_w_85, hb, hc, rd 99 (by decide) (by decide) (by decide), rd 100 (by decide) (by decide) (by decide), rd 101 (by decide) (by decide) (by decide), p3_wa, p3_wb n1, p3_wc n2 n3, nI_1, pm_opt_some, pm_opt_none, pm_opt_if, Bool.false_eq_true, Bool.not_false, Bool.not_true, if_false, if_true, true_and, and_true, true_or, or_true, not_true_eq_false, not_false_eq_true, q10, q00, q01, q11, pk_v, pk_i, pk_l, pk_r]
    rw [i3]
    rfl) 16 0 (by omega)
  rw [upC_0, nI_0] at L
  have h16 : ((16 : Int32) ≤ nI 16) = True := by decide
  have e0 : upC I 83 84 85 (rowT I 99 100 101) 16 82 0 = I 82 0 := by rw [upC_at (by decide) (by decide) (by decide)]
  rw [L, e_M_go_49]
  simp only [e_M_go_0, e_M_go_1, e_M_go_2, e_M_go_3, e_M_go_6, e_M_go_9, e_M_go_12, e_M_go_14, e_M_go_15, e_M_go_16, e_M_go_19, e_M_go_20, e_M_go_21, e_M_go_24, e_M_go_27, e_M_go_29, e_M_go_30, e_M_go_31, e_M_go_34, e_M_go_35, e_M_go_36, e_M_go_39, e_M_go_40, e_M_go_41, e_M_go_44, e_M_go_47, e_M_go_48, e_M_go_50, e_M_go_52, e_M_go_55, e_M_go_56, e_M_go_59, e_M_go_60, e_M_go_61, e_M_go_64, e_M_go_65, e_M_go_66, e_M_go_67, e_M_go_68, e_M_go_71, e_M_go_72, e_M_go_73, e_M_go_76, e_M_go_77, e_M_go_78, e_M_go_79, e_M_go_80, e_M_go_83, e_M_go_84, e_M_go_85, e_M_go_88, e_M_go_89, e_M_go_90, e_M_go_91, e_M_go_94, e_M_go_97, e_M_go_98, e_M_go_101, h16, sh_o_82, e0, pm_opt_some, pm_opt_none, pm_opt_if, Bool.false_eq_true, Bool.not_false, Bool.not_true, if_false, if_true, true_and, and_true, true_or, or_true, not_true_eq_false, not_false_eq_true, q10, q00, q01, q11, pk_v, pk_i, pk_l, pk_r]
/-- hours hang on few things -/
theorem hr_cg {I I' : Nat → Nat → Int32} {w : Nat} {heat : Int32} {h0 n : Nat} (hws : ∀ which hour warm, wsI I' w which hour warm = wsI I w which hour warm) (h5 : I' 1 5 = I 1 5) (h7 : I' 7 = I 7) (h8 : I' 8 = I 8) : hrT I' w heat h0 n T = hrT I w heat h0 n T := by
  unfold hrT
  refine fld_congr _ _ _ (fun i b _ _ => ?_)
  unfold hsT stT frI wmI
  rw [hws, hws, hws, h5, h7, h8]
/-- what a go leaves -/
def goR (I : Nat → Nat → Int32) (m : Nat) (I2 : Nat → Nat → Int32) : Prop :=
  (∀ q, ([1, 3, 4, 5, 83, 84, 85] ++ SL).contains q = false → I2 q = I q) ∧ (∀ k, ¬ k = 4 → I2 1 k = I 1 k) ∧ I2 1 4 = nI (hN I + m) ∧ (∀ k, SF.contains k = false → ¬ k = 0 → I2 82 k = I 82 k) ∧ I2 82 0 = nI (hN I + m) ∧
  (I2 3 = cpN 16 (fun k => (ahT I 0 m k).1) (I 3) ∧ I2 4 = cpN 16 (fun k => (ahT I 0 m k).2.1) (I 4) ∧ I2 5 = cpN 16 (fun k => (ahT I 0 m k).2.2) (I 5)) ∧ (I2 83 = cpN 16 (fun k => (ahT I 0 m k).1) (I 83) ∧ I2 84 = cpN 16 (fun k => (ahT I 0 m k).2.1) (I 84) ∧ I2 85 = cpN 16 (fun k => (ahT I 0 m k).2.2) (I 85))
theorem goR_Rel {m : Nat} {I2 : Nat → Nat → Int32} (hR : Rel I J) (hm : hN I + m ≤ 9999) (h : goR I m I2) : Rel I2 J := by
  obtain ⟨all, a1, a14, a82, a80, ⟨x3, x4, x5⟩, x83, x84, x85⟩ := h
  obtain ⟨r1, r2, r3, r4, r5, r6, r7, r8⟩ := id hR
  have L : ∀ q, ([1, 3, 4, 5, 83, 84, 85] ++ SL).contains q = false → I2 q = I q := all
  refine ⟨?_, ?_, ?_, ?_, ?_, ?_, ?_, ?_⟩
  · unfold REn at r1 ⊢
    rw [x83, x84, x85, x3, x4, x5, a80, a14, a82 1 (by decide) (by decide), a82 34 (by decide) (by decide), a82 10 (by decide) (by decide), a1 5 (by decide), a1 10 (by decide), a1 11 (by decide), L 86 (by decide), L 87 (by decide), L 88 (by decide), L 89 (by decide), L 105 (by decide), L 106 (by decide), L 107 (by decide), L 6 (by decide), L 7 (by decide), L 8 (by decide), L 9 (by decide), L 10 (by decide), L 11 (by decide), L 12 (by decide)]
    simp only [r1, and_self]
  · unfold REk at r2 ⊢
    rw [L 108 (by decide), L 109 (by decide), L 110 (by decide), L 111 (by decide), L 112 (by decide), L 113 (by decide), L 114 (by decide), L 115 (by decide), L 116 (by decide), L 117 (by decide), L 15 (by decide), L 16 (by decide), L 17 (by decide), L 18 (by decide), L 19 (by decide), L 20 (by decide), L 21 (by decide), L 22 (by decide), L 23 (by decide), L 24 (by decide), L 13 (by decide), a82 40 (by decide) (by decide), a82 41 (by decide) (by decide), a82 42 (by decide) (by decide), a82 39 (by decide) (by decide)]
    exact r2
  · unfold REo at r3 ⊢
    rw [L 90 (by decide), L 118 (by decide), L 25 (by decide), L 34 (by decide), L 0 (by decide), L 33 (by decide), a82 38 (by decide) (by decide), a82 11 (by decide) (by decide), a82 9 (by decide) (by decide), a82 53 (by decide) (by decide)]
    exact r3
  · unfold RBn pB at r4 ⊢
    rw [x3, x4, x5, a14, a1 10 (by decide), a1 11 (by decide), L 6 (by decide), L 7 (by decide), L 8 (by decide), L 9 (by decide), L 10 (by decide), L 11 (by decide), L 12 (by decide), L 0 (by decide)]
    refine ⟨fun k hk => ?_, r4.2.1, r4.2.2.1, r4.2.2.2.1, r4.2.2.2.2.1, ⟨hN I + m, hm, rfl⟩, r4.2.2.2.2.2.2⟩
    unfold cpN
    rw [if_pos hk, if_pos hk, if_pos hk]
    exact ahT_ok hR k hk
  · unfold RBk at r5 ⊢
    rw [L 15 (by decide), L 16 (by decide), L 17 (by decide), L 18 (by decide), L 19 (by decide), L 20 (by decide), L 21 (by decide), L 22 (by decide), L 23 (by decide), L 24 (by decide), L 13 (by decide), L 0 (by decide)]
    exact r5
  · refine RW_fr (fun q h1 h2 h3 => L q ?_) (fun q h1 h2 => L q ?_) (by rw [L 0 (by decide)]) r6
    · unfold SL
      simp
      omega
    · unfold SL
      simp
      omega
  · unfold RX at r7 ⊢
    rw [L 0 (by decide), L 25 (by decide), L 33 (by decide)]
    exact r7
  · refine RT_fr (fun q h1 h2 => L q ?_) (L 119 (by decide)) (L 120 (by decide)) (fun _ _ _ => rfl) rfl r8
    unfold SL
    simp
    omega
theorem M_go_run {m : Nat} (hR : Rel I J) (ha : 1 ≤ nI m ∧ nI m ≤ 240) (hm : m ≤ 240) (hm9 : hN I + m ≤ 9999) : ∃ I2, goR I m I2 ∧ ∀ (d : Nat) (P : pm_O → Prop), pm_cl X (d + 50) 153 [.ref 82, .int (nI m)] (pm_S0 ++ g, pm_w (upC I 3 4 5 (ahT I 0 m) 16) 1 4 (nI (hN I + m)), J) P = P (some (.int (nI (hN I + m))), (pm_S0 ++ g, I2, J)) := by
  have eM : I 82 0 = nI (hN I) := hR.1.2.1.trans (Rel_hN hR)
  have hh' : nI (hN I + m) ≤ 9999 := by
    rw [show (9999 : Int32) = nI 9999 from rfl, nI_leI (by omega) (by decide)]
    exact hm9
  have f1 : ∀ q, ¬ q = 1 → ¬ q = 3 → ¬ q = 4 → ¬ q = 5 → pm_w (upC I 3 4 5 (ahT I 0 m) 16) 1 4 (nI (hN I + m)) q = I q := by
    intro q b1 b3 b4 b5
    rw [pw_ne b1, upC_at b3 b4 b5]
  have f1b : ∀ k, ¬ k = 4 → pm_w (upC I 3 4 5 (ahT I 0 m) 16) 1 4 (nI (hN I + m)) 1 k = I 1 k := by
    intro k hk
    rw [pw_eq, upd_app, if_neg hk, upC_at (by decide) (by decide) (by decide)]
  have f1c : pm_w (upC I 3 4 5 (ahT I 0 m) 16) 1 4 (nI (hN I + m)) 1 4 = nI (hN I + m) := by rw [pw_eq, upd_app, if_pos rfl]
  have f3 : pm_w (upC I 3 4 5 (ahT I 0 m) 16) 1 4 (nI (hN I + m)) 3 = cpN 16 (fun k => (ahT I 0 m k).1) (I 3) := by rw [pw_ne (by decide), uC_a]
  have f4 : pm_w (upC I 3 4 5 (ahT I 0 m) 16) 1 4 (nI (hN I + m)) 4 = cpN 16 (fun k => (ahT I 0 m k).2.1) (I 4) := by rw [pw_ne (by decide), uC_b (by decide)]
  have f5 : pm_w (upC I 3 4 5 (ahT I 0 m) 16) 1 4 (nI (hN I + m)) 5 = cpN 16 (fun k => (ahT I 0 m k).2.2) (I 5) := by rw [pw_ne (by decide), uC_c (by decide) (by decide)]
  generalize pm_w (upC I 3 4 5 (ahT I 0 m) 16) 1 4 (nI (hN I + m)) = I1 at f1 f1b f1c f3 f4 f5
  have hfr : pm_fr [1, 3, 4, 5, 82] I (nL I1) := by
    intro q hq
    have h : ¬ q = 1 ∧ ¬ q = 3 ∧ ¬ q = 4 ∧ ¬ q = 5 ∧ ¬ q = 82 := by simpa using hq
    unfold nL
    rw [pw_ne h.2.2.2.2, f1 q h.1 h.2.1 h.2.2.1 h.2.2.2.1]
  have n82 : ∀ k, ¬ k = 27 → nL I1 82 k = I 82 k := by
    intro k hk
    unfold nL
    rw [pw_eq, upd_app, if_neg hk, f1 82 (by decide) (by decide) (by decide) (by decide)]
  have hX : WX (nL I1) (hwI I) (nL I1 82 10) := by
    rw [n82 10 (by decide)]
    exact fr_WX (by decide) hfr (Rel_WXm hR)
  have hMC : MC (nL I1) := by
    have h := Rel_MC hR
    unfold MC at h ⊢
    rw [hfr 87 (by decide), hfr 88 (by decide), hfr 7 (by decide), hfr 8 (by decide)]
    exact h
  have h15 : nL I1 82 1 = nL I1 1 5 := by
    rw [n82 1 (by decide), hR.1.2.2.1]
    unfold nL
    rw [pw_ne (by decide), f1b 5 (by decide)]
  have er : rowT I1 83 84 85 = rowT I 3 4 5 := by
    unfold rowT
    rw [f1 83 (by decide) (by decide) (by decide) (by decide), f1 84 (by decide) (by decide) (by decide) (by decide), f1 85 (by decide) (by decide) (by decide) (by decide), hR.1.1.1, hR.1.1.2.1, hR.1.1.2.2.1]
  have e0 : I1 82 0 = nI (hN I) := by rw [f1 82 (by decide) (by decide) (by decide) (by decide)]; exact eM
  obtain ⟨p', hp⟩ := K_M_goHours (X := X) (g := g) (J := J) (p := I1 98) (h0 := hN I) (m := m) hX hMC h15 (Rel_Tok hR) (by omega)
  have eT : hrM (nL I1) (hwI I) (hN I) m (rowT I 3 4 5) = ahT I 0 m := by
    rw [hrM_no nL_27]
    refine hr_cg (fun which hour warm => fr_ws (by decide) hfr hwI_is) ?_ (hfr 7 (by decide)) (hfr 8 (by decide))
    unfold nL
    rw [pw_ne (by decide), f1b 5 (by decide)]
  rw [eT] at hp
  have e26 : MS (nL I1) (ahT I 0 m) (nI (hN I + m)) p' 82 26 = nI (hN I + m) := by rw [MS_82, upd_app, if_pos rfl]
  refine ⟨upC (pm_w (MS (nL I1) (ahT I 0 m) (nI (hN I + m)) p') 82 0 (nI (hN I + m))) 83 84 85 (rowT (pm_w (MS (nL I1) (ahT I 0 m) (nI (hN I + m)) p') 82 0 (nI (hN I + m))) 99 100 101) 16, ?_, K50 fun d' => ?_⟩
  · have erow : ∀ k, k < 16 → rowT (pm_w (MS (nL I1) (ahT I 0 m) (nI (hN I + m)) p') 82 0 (nI (hN I + m))) 99 100 101 k = ahT I 0 m k := by
      intro k hk
      have := upC_rd (I := pm_up (pm_w (nL I1) 82 26 (nI (hN I + m))) 98 p') (T := ahT I 0 m) (a := 99) (b := 100) (c := 101) (by decide) (by decide) (by decide) hk
      rw [← this]
      unfold rowT
      rw [pw_ne (by decide), pw_ne (by decide), pw_ne (by decide)]
      rfl
    rw [upC_cg erow]
    have b82 : ∀ k, ¬ k = 0 → ¬ k = 26 → ¬ k = 27 → pm_w (MS (nL I1) (ahT I 0 m) (nI (hN I + m)) p') 82 0 (nI (hN I + m)) 82 k = I 82 k := by
      intro k b1 b2 b3
      rw [pw_eq, upd_app, if_neg b1, MS_82, upd_app, if_neg b2, n82 k b3]
    have ball : ∀ q, ¬ q = 82 → ¬ q = 98 → ¬ q = 99 → ¬ q = 100 → ¬ q = 101 → pm_w (MS (nL I1) (ahT I 0 m) (nI (hN I + m)) p') 82 0 (nI (hN I + m)) q = I1 q := by
      intro q b1 b2 b3 b4 b5
      rw [pw_ne b1, MS_rd ⟨b1, b2, b3, b4, b5⟩]
      unfold nL
      rw [pw_ne b1]
    refine ⟨fun q hq => ?_, fun k hk => ?_, ?_, fun k hk hk0 => ?_, ?_, ⟨?_, ?_, ?_⟩, ?_, ?_, ?_⟩
    · unfold SL at hq
      simp at hq
      rw [upC_at (by omega) (by omega) (by omega), ball q (by omega) (by omega) (by omega) (by omega) (by omega), f1 q (by omega) (by omega) (by omega) (by omega)]
    · rw [upC_at (by decide) (by decide) (by decide), ball 1 (by decide) (by decide) (by decide) (by decide) (by decide), f1b k hk]
    · rw [upC_at (by decide) (by decide) (by decide), ball 1 (by decide) (by decide) (by decide) (by decide) (by decide), f1c]
    · rw [upC_at (by decide) (by decide) (by decide)]
      unfold SF at hk
      simp at hk
      exact b82 k hk0 (by omega) (by omega)
    · rw [upC_at (by decide) (by decide) (by decide), pw_eq, upd_app, if_pos rfl]
    · rw [upC_at (by decide) (by decide) (by decide), ball 3 (by decide) (by decide) (by decide) (by decide) (by decide), f3]
    · rw [upC_at (by decide) (by decide) (by decide), ball 4 (by decide) (by decide) (by decide) (by decide) (by decide), f4]
    · rw [upC_at (by decide) (by decide) (by decide), ball 5 (by decide) (by decide) (by decide) (by decide) (by decide), f5]
    · rw [uC_a, ball 83 (by decide) (by decide) (by decide) (by decide) (by decide), f1 83 (by decide) (by decide) (by decide) (by decide)]
    · rw [uC_b (by decide), ball 84 (by decide) (by decide) (by decide) (by decide) (by decide), f1 84 (by decide) (by decide) (by decide) (by decide)]
    · rw [uC_c (by decide) (by decide), ball 85 (by decide) (by decide) (by decide) (by decide) (by decide), f1 85 (by decide) (by decide) (by decide) (by decide)]
  · have as := fun (d : Nat) (P : pm_O → Prop) => K_M_asIs0 (X := X) (d := d) (P := P) (g := g) (I := I1) (J := J)
    rw [er, e0] at as
    have e80 : pm_w (MS (nL I1) (ahT I 0 m) (nI (hN I + m)) p') 82 0 (nI (hN I + m)) 82 0 = nI (hN I + m) := by rw [pw_eq, upd_app, if_pos rfl]
    show pm_V X (d' + 49) 153 0 [some (.ref 82), some (.int (nI m)), none] [] (pm_S0 ++ g, I1, J) _
    simp only [e_M_go_0, e_M_go_1, e_M_go_2, e_M_go_3, e_M_go_6, e_M_go_9, e_M_go_12, e_M_go_14, e_M_go_15, e_M_go_16, e_M_go_19, e_M_go_20, e_M_go_21, e_M_go_24, e_M_go_27, e_M_go_29, e_M_go_30, e_M_go_31, e_M_go_34, e_M_go_35, e_M_go_36, e_M_go_39, e_M_go_40, e_M_go_41, e_M_go_44, e_M_go_47, e_M_go_48, e_M_go_50, e_M_go_52, e_M_go_55, e_M_go_56, e_M_go_59, e_M_go_60, e_M_go_61, e_M_go_64, e_M_go_65, e_M_go_66, e_M_go_67, e_M_go_68, e_M_go_71, e_M_go_72, e_M_go_73, e_M_go_76, e_M_go_77, e_M_go_78, e_M_go_79, e_M_go_80, e_M_go_83, e_M_go_84, e_M_go_85, e_M_go_88, e_M_go_89, e_M_go_90, e_M_go_91, e_M_go_94, e_M_go_97, e_M_go_98, e_M_go_101, sh_o_82, K_M_in, eq_true ha, e0, nI_add, hh', as, hp, e26, pm_opt_some, pm_opt_none, pm_opt_if, Bool.false_eq_true, Bool.not_false, Bool.not_true, if_false, if_true, true_and, and_true, true_or, or_true, not_true_eq_false, not_false_eq_true, q10, q00, q01, q11, pk_v, pk_i, pk_l, pk_r]
    rw [M_go_loop, e80]
theorem Pair_go (hR : Rel I J) : Pair X 11 153 [.int a] g I J := by
  by_cases ha : 1 ≤ a ∧ a ≤ 240
  · have h0 : 0 ≤ a ∧ a ≤ 240 := by
      refine ⟨?_, ha.2⟩
      have := ha.1
      rw [i_le, k1] at this
      rw [i_le, k0]
      omega
    obtain ⟨m, hm, rfl⟩ := in_of (m := 240) rfl h0
    have hN9 := Rel_hN9 hR
    have eN := Rel_hN hR
    have eM : I 82 0 = nI (hN I) := hR.1.2.1.trans eN
    by_cases hh : 9999 < nI (hN I + m)
    · have hh' : ¬ nI (hN I + m) ≤ 9999 := Int32.not_le.mpr hh
      refine Pair_q (v := .int (-3)) hR ⟨I, sfr_rf, K50 fun d' => ?_⟩ (fun I1 h1 hR1 => ⟨I1, sfr_rf, K50 fun d' => ?_⟩)
      · show pm_V X (d' + 49) 11 0 [some (.ref 0), some (.int (nI m))] [] (pm_S0 ++ g, I, J) _
        simp only [e_B_go_0, e_B_go_1, e_B_go_2, e_B_go_5, e_B_go_8, e_B_go_11, e_B_go_13, e_B_go_14, e_B_go_15, e_B_go_18, e_B_go_21, e_B_go_22, e_B_go_23, e_B_go_26, e_B_go_29, e_B_go_31, e_B_go_32, e_B_go_33, e_B_go_34, e_B_go_37, e_B_go_40, e_B_go_41, e_B_go_42, e_B_go_45, e_B_go_46, e_B_go_49, e_B_go_50, e_B_go_53, e_B_go_54, e_B_go_55, e_B_go_58, e_B_go_59, e_B_go_62, e_B_go_65, K_B_isWithin, eq_true ha, sh_r_0_0, sh_o_1, eN, nI_add, hh', pm_opt_some, pm_opt_none, pm_opt_if, Bool.false_eq_true, Bool.not_false, Bool.not_true, if_false, if_true, true_and, and_true, true_or, or_true, not_true_eq_false, not_false_eq_true, q10, q00, q01, q11, pk_v, pk_i, pk_l, pk_r]
      · have eM1 : I1 82 0 = nI (hN I) := (sfr_82 h1 (by decide)).trans eM
        show pm_V X (d' + 49) 153 0 [some (.ref 82), some (.int (nI m)), none] [] (pm_S0 ++ g, I1, J) _
        simp only [e_M_go_0, e_M_go_1, e_M_go_2, e_M_go_3, e_M_go_6, e_M_go_9, e_M_go_12, e_M_go_14, e_M_go_15, e_M_go_16, e_M_go_19, e_M_go_20, e_M_go_21, e_M_go_24, e_M_go_27, e_M_go_29, e_M_go_30, e_M_go_31, e_M_go_34, e_M_go_35, e_M_go_36, e_M_go_39, e_M_go_40, e_M_go_41, e_M_go_44, e_M_go_47, e_M_go_48, e_M_go_49, e_M_go_50, e_M_go_52, e_M_go_55, e_M_go_56, e_M_go_59, e_M_go_60, e_M_go_61, e_M_go_64, e_M_go_65, e_M_go_66, e_M_go_67, e_M_go_68, e_M_go_71, e_M_go_72, e_M_go_73, e_M_go_76, e_M_go_77, e_M_go_78, e_M_go_79, e_M_go_80, e_M_go_83, e_M_go_84, e_M_go_85, e_M_go_88, e_M_go_89, e_M_go_90, e_M_go_91, e_M_go_94, e_M_go_97, e_M_go_98, e_M_go_101, sh_o_82, K_M_in, eq_true ha, eM1, nI_add, hh', pm_opt_some, pm_opt_none, pm_opt_if, Bool.false_eq_true, Bool.not_false, Bool.not_true, if_false, if_true, true_and, and_true, true_or, or_true, not_true_eq_false, not_false_eq_true, q10, q00, q01, q11, pk_v, pk_i, pk_l, pk_r]
    · have hh' : nI (hN I + m) ≤ 9999 := Int32.not_lt.mp hh
      have hm9 : hN I + m ≤ 9999 := by
        rw [show (9999 : Int32) = nI 9999 from rfl, nI_leI (by omega) (by decide)] at hh'
        exact hh'
      have hC := Rel_CH hR
      have ep := fun (d : Nat) (P : pm_O → Prop) => K_B_passHours (X := X) (d := d) (P := P) (g := g) (I := I) (J := J) (T := rowT I 3 4 5) (n := m) (heat := 0) ice_now (by decide) (by decide) (by decide) (by decide) hC (by omega)
      rw [upC_self, show hrT I (hwI I) 0 (hN I) m (rowT I 3 4 5) = ahT I 0 m from rfl] at ep
      have go : ∃ I2, goR I m I2 ∧ ∀ (d : Nat) (P : pm_O → Prop), pm_cl X (d + 50) 153 [.ref 82, .int (nI m)] (pm_S0 ++ g, pm_w (upC I 3 4 5 (ahT I 0 m) 16) 1 4 (nI (hN I + m)), J) P = P (some (.int (nI (hN I + m))), (pm_S0 ++ g, I2, J)) := M_go_run hR ha hm hm9
      obtain ⟨I2, hI2, hM⟩ := go
      refine ⟨.int (nI (hN I + m)), g, pm_w (upC I 3 4 5 (ahT I 0 m) 16) 1 4 (nI (hN I + m)), J, I2, J, goR_Rel hR hm9 hI2, Or.inl rfl, rfl, K50 fun d' => ?_, hM⟩
      have e14 : upC I 3 4 5 (ahT I 0 m) 16 1 = I 1 := upC_at (by decide) (by decide) (by decide)
      have ew : pm_w (upC I 3 4 5 (ahT I 0 m) 16) 1 4 (nI (hN I + m)) 1 4 = nI (hN I + m) := by rw [pw_eq, upd_app, if_pos rfl]
      show pm_V X (d' + 49) 11 0 [some (.ref 0), some (.int (nI m))] [] (pm_S0 ++ g, I, J) _
      simp only [e_B_go_0, e_B_go_1, e_B_go_2, e_B_go_5, e_B_go_8, e_B_go_11, e_B_go_13, e_B_go_14, e_B_go_15, e_B_go_18, e_B_go_21, e_B_go_22, e_B_go_23, e_B_go_26, e_B_go_29, e_B_go_31, e_B_go_32, e_B_go_33, e_B_go_34, e_B_go_37, e_B_go_40, e_B_go_41, e_B_go_42, e_B_go_45, e_B_go_46, e_B_go_49, e_B_go_50, e_B_go_53, e_B_go_54, e_B_go_55, e_B_go_58, e_B_go_59, e_B_go_62, e_B_go_65, K_B_isWithin, eq_true ha, sh_o_0, sh_o_1, sh_r_0_0, sh_r_1_0, eN, nI_add, hh', ep, e14, ew, pm_opt_some, pm_opt_none, pm_opt_if, Bool.false_eq_true, Bool.not_false, Bool.not_true, if_false, if_true, true_and, and_true, true_or, or_true, not_true_eq_false, not_false_eq_true, q10, q00, q01, q11, pk_v, pk_i, pk_l, pk_r]
  · exact Pair_q (v := .int (-2)) hR ⟨I, sfr_rf, K50 fun d' => by { show pm_V X (d' + 49) 11 0 [some (.ref 0), some (.int a)] [] (pm_S0 ++ g, I, J) _; simp only [e_B_go_0, e_B_go_1, e_B_go_2, e_B_go_5, e_B_go_8, e_B_go_11, e_B_go_13, e_B_go_14, e_B_go_15, e_B_go_18, e_B_go_21, e_B_go_22, e_B_go_23, e_B_go_26, e_B_go_29, e_B_go_31, e_B_go_32, e_B_go_33, e_B_go_34, e_B_go_37, e_B_go_40, e_B_go_41, e_B_go_42, e_B_go_45, e_B_go_46, e_B_go_49, e_B_go_50, e_B_go_53, e_B_go_54, e_B_go_55, e_B_go_58, e_B_go_59, e_B_go_62, e_B_go_65, K_B_isCell, K_B_isWithin, K_B_isTape, K_B_isKind, eq_false ha, pm_opt_some, pm_opt_none, pm_opt_if, Bool.false_eq_true, Bool.not_false, Bool.not_true, if_false, if_true, true_and, and_true, true_or, or_true, not_true_eq_false, not_false_eq_true, q10, q00, q01, q11, pk_v, pk_i, pk_l, pk_r] }⟩ (fun I1 h1 hR1 => ⟨I1, sfr_rf, K50 fun d' => by { show pm_V X (d' + 49) 153 0 [some (.ref 82), some (.int a), none] [] (pm_S0 ++ g, I1, J) _; simp only [e_M_go_0, e_M_go_1, e_M_go_2, e_M_go_3, e_M_go_6, e_M_go_9, e_M_go_12, e_M_go_14, e_M_go_15, e_M_go_16, e_M_go_19, e_M_go_20, e_M_go_21, e_M_go_24, e_M_go_27, e_M_go_29, e_M_go_30, e_M_go_31, e_M_go_34, e_M_go_35, e_M_go_36, e_M_go_39, e_M_go_40, e_M_go_41, e_M_go_44, e_M_go_47, e_M_go_48, e_M_go_49, e_M_go_50, e_M_go_52, e_M_go_55, e_M_go_56, e_M_go_59, e_M_go_60, e_M_go_61, e_M_go_64, e_M_go_65, e_M_go_66, e_M_go_67, e_M_go_68, e_M_go_71, e_M_go_72, e_M_go_73, e_M_go_76, e_M_go_77, e_M_go_78, e_M_go_79, e_M_go_80, e_M_go_83, e_M_go_84, e_M_go_85, e_M_go_88, e_M_go_89, e_M_go_90, e_M_go_91, e_M_go_94, e_M_go_97, e_M_go_98, e_M_go_101, sh_o_82, K_M_isCell, K_M_in, K_M_isTape, eq_false ha, pm_opt_some, pm_opt_none, pm_opt_if, Bool.false_eq_true, Bool.not_false, Bool.not_true, if_false, if_true, true_and, and_true, true_or, or_true, not_true_eq_false, not_false_eq_true, q10, q00, q01, q11, pk_v, pk_i, pk_l, pk_r] }⟩)
end P50
