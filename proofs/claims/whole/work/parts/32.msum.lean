/-! the sums of a WINTER, the reference's side, told by the class's rows -/
def WR (I : Nat → Nat → Int32) (w f : Nat) : Prop := wok I w ∧ I 91 f = nI (wnI I w) ∧ ∀ c, c < wnI I w → I 92 (10 * f + c) = I (w + 1) c ∧ I 93 (10 * f + c) = I (w + 2) c ∧ (∃ m, m < 100 ∧ I (w + 2) c = nI m) ∧ (I (w + 1) c = 3 ∨ (¬ I (w + 1) c = 3 ∧ clR I w c (10 * f + c)))
/-- a WINTER's cell, and its number at the reference -/
def WX (I : Nat → Nat → Int32) (w : Nat) (fi : Int32) : Prop := (fi = -1 ∧ w = 26 ∧ I 26 3 = 0) ∨ ∃ f, f < 5 ∧ fi = nI f ∧ w = 45 + 5 * f ∧ WR I w f
section P32
variable {X : pm_X} {d : Nat} {P Q : pm_O → Prop} {g : List pm_S} {S : List pm_S} {I I' : Nat → Nat → Int32} {J : Nat → Nat → Int64} {w c : Nat} {fi : Int32}
theorem K_M_holds {cm : Nat} {hour warm : Int32} {p : Nat → Int32} (hw : warm = 0 ∨ warm = 1) (hcm : cm < 50) (h : clR I w c cm) : ∃ p', ∀ (d : Nat) (P : pm_O → Prop), pm_cl X (d + 2) 132 [.ref 82, .int (nI cm), .int hour, .int warm] (pm_S0 ++ g, pm_up I 98 p, J) P = P (some (.int (if holdsC (I (w + 4)) (enI I w) c hour warm = true then 1 else 0)), (pm_S0 ++ g, pm_up I 98 p', J)) := by
  obtain ⟨e94, e95, h5, he, hdp⟩ := h
  have hbc := bad_nI (k := cm) (n := 50) hcm (by decide)
  have hcc := nI_clamp (n := cm) (by omega)
  have n1 : ∀ q, ¬ q = 98 → ∀ f, pm_up I 98 f q = I q := fun q h f => pu_ne h
  have n2 : ∀ f, pm_up I 98 f 98 = f := fun f => pu_eq
  -- what is left of the pile
  have A : ∀ (n k dep : Nat) (found : Int32) (f : Nat → Int32), k + n = enI I w c - frE (enI I w) c → dpC (I (w + 4)) (frE (enI I w) c + k) n dep → bR found dep f → ∃ (f' : Nat → Int32), (f' 0 = if evC (I (w + 4)) hour warm (frE (enI I w) c + k) n found &&& 1 = 1 then 1 else 0) ∧ ∀ (l6 l7 l8 : Option Value) (d : Nat) (Q : pm_O → Prop), pm_V X (d + 1) 132 11 [some (.ref 82), some (.int (nI cm)), some (.int hour), some (.int warm), some (.int (nI dep)), some (.int (nI (frM I cm + k))), l6, l7, l8] [] (pm_S0 ++ g, pm_up I 98 f, J) Q = Q (some (.int (f' 0)), (pm_S0 ++ g, pm_up I 98 f', J)) := by
    intro n
    induction n with
    | zero =>
      intro k dep found f hk hd hb
      rw [dpC] at hd
      subst hd
      have h0 := hb.2 0 (by omega)
      simp only [Nat.add_sub_cancel, Nat.sub_zero] at h0
      refine ⟨f, ?_, ?_⟩
      · rw [evC, h0]
        simp only [bt_0]
      · intro l6 l7 l8 d Q
        have hlt : (nI (frM I cm + (enI I w c - frE (enI I w) c)) ≤ nI (frM I cm + k)) = True := by
          rw [nI_le_l (by omega) (by omega)]
          exact eq_true (by omega)
        have hb0 : pm_bad 0 100 = false := by decide
        have hc0 : (0 : Int32).toNatClampNeg = 0 := by decide
        have h01 : (f 0 = 0 ∨ f 0 = 1) = True := by
          rw [h0]
          cases bt found 0 <;> simp
        rw [e_M_holds_11]
        simp only [e_M_holds_0, e_M_holds_1, e_M_holds_3, e_M_holds_4, e_M_holds_7, e_M_holds_8, e_M_holds_9, e_M_holds_13, e_M_holds_14, e_M_holds_17, e_M_holds_18, e_M_holds_19, e_M_holds_22, e_M_holds_23, e_M_holds_26, e_M_holds_28, e_M_holds_29, e_M_holds_31, e_M_holds_33, e_M_holds_35, e_M_holds_38, e_M_holds_39, e_M_holds_42, e_M_holds_44, e_M_holds_45, e_M_holds_46, e_M_holds_47, e_M_holds_50, e_M_holds_52, e_M_holds_53, e_M_holds_54, e_M_holds_55, e_M_holds_58, e_M_holds_59, e_M_holds_62, e_M_holds_63, e_M_holds_64, e_M_holds_67, e_M_holds_69, e_M_holds_72, e_M_holds_75, e_M_holds_76, e_M_holds_79, e_M_holds_81, e_M_holds_82, e_M_holds_83, e_M_holds_85, e_M_holds_87, e_M_holds_90, e_M_holds_91, e_M_holds_94, e_M_holds_96, e_M_holds_97, e_M_holds_98, e_M_holds_99, e_M_holds_102, e_M_holds_103, e_M_holds_106, e_M_holds_108, e_M_holds_109, e_M_holds_112, e_M_holds_113, e_M_holds_116, e_M_holds_117, e_M_holds_120, e_M_holds_121, e_M_holds_124, e_M_holds_126, e_M_holds_127, e_M_holds_128, e_M_holds_129, e_M_holds_132, e_M_holds_133, e_M_holds_136, e_M_holds_138, e_M_holds_139, e_M_holds_142, e_M_holds_143, e_M_holds_146, e_M_holds_147, e_M_holds_148, e_M_holds_151, e_M_holds_153, e_M_holds_156, e_M_holds_159, e_M_holds_160, e_M_holds_162, e_M_holds_163, e_M_holds_166, e_M_holds_168, e_M_holds_171, e_M_holds_174, e_M_holds_175, e_M_holds_177, e_M_holds_178, e_M_holds_180, e_M_holds_181, e_M_holds_184, e_M_holds_185, e_M_holds_188, e_M_holds_189, e_M_holds_192, e_M_holds_193, e_M_holds_195, e_M_holds_197, e_M_holds_199, e_M_holds_200, e_M_holds_202, e_M_holds_203, e_M_holds_205, e_M_holds_206, e_M_holds_209, e_M_holds_211, e_M_holds_213, e_M_holds_216, e_M_holds_218, e_M_holds_220, e_M_holds_222, e_M_holds_223, e_M_holds_226, e_M_holds_227, e_M_holds_230, e_M_holds_231, e_M_holds_234, e_M_holds_236, e_M_holds_237, e_M_holds_240, e_M_holds_242, e_M_holds_244, e_M_holds_246, e_M_holds_247, e_M_holds_250, e_M_holds_251, e_M_holds_254, e_M_holds_255, e_M_holds_258, e_M_holds_260, e_M_holds_262, e_M_holds_264, e_M_holds_265, e_M_holds_268, e_M_holds_269, e_M_holds_272, e_M_holds_273, e_M_holds_274, e_M_holds_277, e_M_holds_280, e_M_holds_283, e_M_holds_284, e_M_holds_287, e_M_holds_288, e_M_holds_289, sh_r_82_19, sh_r_82_25, sh_i_95, sh_i_98, pm_opt_some, pm_opt_if, hbc, hcc, hb0, hc0, if_true, Bool.false_eq_true, if_false, true_and, n1 95 (by decide), n2, e95, hlt, h01]
    | succ n ih =>
      intro k dep found f hk hd hb
      obtain ⟨dep', f1, h1, h2, h3⟩ := S_M_holds (X := X) (g := g) (I := I) (J := J) (cm := cm) (k := k) (dep := dep) (fr := frM I cm) (len := enI I w c - frE (enI I w) c) (i0 := frE (enI I w) c) (hour := hour) (warm := warm) (found := found) (code := I (w + 4)) (f := f) hw hcm e95 h5 (he k (by omega)) (by omega) (by rw [show enI I w c - frE (enI I w) c - k = n + 1 by omega]; exact hd) hb
      rw [show enI I w c - frE (enI I w) c - (k + 1) = n by omega] at h1
      obtain ⟨f', h4, h5⟩ := ih (k + 1) dep' _ f1 (by omega) h1 h2
      refine ⟨f', ?_, ?_⟩
      · rw [h4, evC, Nat.add_assoc]
      · intro l6 l7 l8 d Q
        obtain ⟨a6, a7, a8, h6⟩ := h3 l6 l7 l8 (d + 1) Q
        rw [h6, h5]
  obtain ⟨f', h1, h2⟩ := A _ 0 0 0 p (by omega) hdp ⟨by omega, fun j hj => by omega⟩
  refine ⟨f', fun d P => ?_⟩
  refine K_of (k := 1) (fun d' => ?_)
  show pm_V X (d' + 1) 132 0 [some (.ref 82), some (.int (nI cm)), some (.int hour), some (.int warm), none, none, none, none, none] [] (pm_S0 ++ g, pm_up I 98 p, J) _
  simp only [e_M_holds_0, e_M_holds_1, e_M_holds_3, e_M_holds_4, e_M_holds_7, e_M_holds_8, e_M_holds_9, e_M_holds_13, e_M_holds_14, e_M_holds_17, e_M_holds_18, e_M_holds_19, e_M_holds_22, e_M_holds_23, e_M_holds_26, e_M_holds_28, e_M_holds_29, e_M_holds_31, e_M_holds_33, e_M_holds_35, e_M_holds_38, e_M_holds_39, e_M_holds_42, e_M_holds_44, e_M_holds_45, e_M_holds_46, e_M_holds_47, e_M_holds_50, e_M_holds_52, e_M_holds_53, e_M_holds_54, e_M_holds_55, e_M_holds_58, e_M_holds_59, e_M_holds_62, e_M_holds_63, e_M_holds_64, e_M_holds_67, e_M_holds_69, e_M_holds_72, e_M_holds_75, e_M_holds_76, e_M_holds_79, e_M_holds_81, e_M_holds_82, e_M_holds_83, e_M_holds_85, e_M_holds_87, e_M_holds_90, e_M_holds_91, e_M_holds_94, e_M_holds_96, e_M_holds_97, e_M_holds_98, e_M_holds_99, e_M_holds_102, e_M_holds_103, e_M_holds_106, e_M_holds_108, e_M_holds_109, e_M_holds_112, e_M_holds_113, e_M_holds_116, e_M_holds_117, e_M_holds_120, e_M_holds_121, e_M_holds_124, e_M_holds_126, e_M_holds_127, e_M_holds_128, e_M_holds_129, e_M_holds_132, e_M_holds_133, e_M_holds_136, e_M_holds_138, e_M_holds_139, e_M_holds_142, e_M_holds_143, e_M_holds_146, e_M_holds_147, e_M_holds_148, e_M_holds_151, e_M_holds_153, e_M_holds_156, e_M_holds_159, e_M_holds_160, e_M_holds_162, e_M_holds_163, e_M_holds_166, e_M_holds_168, e_M_holds_171, e_M_holds_174, e_M_holds_175, e_M_holds_177, e_M_holds_178, e_M_holds_180, e_M_holds_181, e_M_holds_184, e_M_holds_185, e_M_holds_188, e_M_holds_189, e_M_holds_192, e_M_holds_193, e_M_holds_195, e_M_holds_197, e_M_holds_199, e_M_holds_200, e_M_holds_202, e_M_holds_203, e_M_holds_205, e_M_holds_206, e_M_holds_209, e_M_holds_211, e_M_holds_213, e_M_holds_216, e_M_holds_218, e_M_holds_220, e_M_holds_222, e_M_holds_223, e_M_holds_226, e_M_holds_227, e_M_holds_230, e_M_holds_231, e_M_holds_234, e_M_holds_236, e_M_holds_237, e_M_holds_240, e_M_holds_242, e_M_holds_244, e_M_holds_246, e_M_holds_247, e_M_holds_250, e_M_holds_251, e_M_holds_254, e_M_holds_255, e_M_holds_258, e_M_holds_260, e_M_holds_262, e_M_holds_264, e_M_holds_265, e_M_holds_268, e_M_holds_269, e_M_holds_272, e_M_holds_273, e_M_holds_274, e_M_holds_277, e_M_holds_280, e_M_holds_283, e_M_holds_284, e_M_holds_287, e_M_holds_288, e_M_holds_289, sh_r_82_18, sh_i_94, pm_opt_some, pm_opt_if, hbc, hcc, true_and, n1 94 (by decide), e94]
  have := h2 none none none d' (fun q => q = (some (.int (if holdsC (I (w + 4)) (enI I w) c hour warm = true then 1 else 0)), (pm_S0 ++ g, pm_up I 98 f', J)))
  simp only [nI_0, Nat.add_zero] at this h1
  rw [this, h1]
  have e : (holdsC (I (w + 4)) (enI I w) c hour warm = true) = (evC (I (w + 4)) hour warm (frE (enI I w) c) (enI I w c - frE (enI I w) c) 0 &&& 1 = 1) := by
    unfold holdsC
    simp
  simp only [e]
theorem clR_fr {w c cm : Nat} (h94 : I' 94 = I 94) (h95 : I' 95 = I 95) (h96 : I' 96 = I 96) (h3 : I' (w + 3) = I (w + 3)) (h4 : I' (w + 4) = I (w + 4)) (h : clR I w c cm) : clR I' w c cm := by
  unfold clR frM at h ⊢
  rw [h94, h95, h96, enI_fr h3, h4]
  exact h
theorem WR_fr {f : Nat} (h91 : I' 91 = I 91) (h92 : I' 92 = I 92) (h93 : I' 93 = I 93) (h94 : I' 94 = I 94) (h95 : I' 95 = I 95) (h96 : I' 96 = I 96) (hf : ∀ i, i < 5 → I' (w + i) = I (w + i)) (h : WR I w f) : WR I' w f := by
  obtain ⟨h1, h2, h3⟩ := h
  have e0 : I' w = I w := hf 0 (by omega)
  refine ⟨wok_fr e0 (hf 3 (by omega)) h1, ?_, fun c hc => ?_⟩
  · rw [h91, wnI_fr e0]; exact h2
  · rw [wnI_fr e0] at hc
    rw [h92, h93, hf 1 (by omega), hf 2 (by omega)]
    obtain ⟨a1, a2, a3, a4⟩ := h3 c hc
    exact ⟨a1, a2, a3, a4.imp id (fun z => ⟨z.1, clR_fr h94 h95 h96 (hf 3 (by omega)) (hf 4 (by omega)) z.2⟩)⟩
theorem WX_is (h : WX I w fi) : isW w := by
  rcases h with ⟨_, rfl, _⟩ | ⟨f, hf, _, rfl, _⟩
  · exact Or.inl rfl
  · exact Or.inr ⟨f, hf, rfl⟩
theorem WX_ok (h : WX I w fi) : wok I w := by
  rcases h with ⟨_, rfl, h0⟩ | ⟨f, hf, _, rfl, h1, _⟩
  · have e : wnI I 26 = 0 := by unfold wnI; rw [h0]; decide
    refine ⟨by rw [e, h0]; rfl, by rw [e]; omega, fun c hc => by rw [e] at hc; omega⟩
  · exact h1
theorem K_M_sumOf {which hour warm : Int32} {p : Nat → Int32} (hX : WX I w fi) (hw : warm = 0 ∨ warm = 1) (h3 : ¬ which = 3) : ∃ p', ∀ (d : Nat) (P : pm_O → Prop), pm_cl X (d + 4) 133 [.ref 82, .int which, .int fi, .int hour, .int warm] (pm_S0 ++ g, pm_up I 98 p, J) P = P (some (.int (wsI I w which hour warm)), (pm_S0 ++ g, pm_up I 98 p', J)) := by
  rcases hX with ⟨rfl, rfl, h0⟩ | ⟨f, hf, rfl, rfl, hok, h91, hc⟩
  · refine ⟨p, fun d P => ?_⟩
    have e : wnI I 26 = 0 := by unfold wnI; rw [h0]; decide
    have e2 : wsI I 26 which hour warm = 0 := by unfold wsI; rw [e]; rfl
    have hm : ((-1 : Int32) < 0) = True := by decide
    rw [e2]
    refine K_of (k := 3) (fun d' => ?_)
    show pm_V X (d' + 3) 133 0 [some (.ref 82), some (.int which), some (.int (-1)), some (.int hour), some (.int warm), none, none] [] (pm_S0 ++ g, pm_up I 98 p, J) _
    simp only [e_M_sumOf_0, e_M_sumOf_1, e_M_sumOf_3, e_M_sumOf_5, e_M_sumOf_6, e_M_sumOf_7, e_M_sumOf_9, e_M_sumOf_10, e_M_sumOf_13, e_M_sumOf_15, e_M_sumOf_17, e_M_sumOf_18, e_M_sumOf_19, e_M_sumOf_20, e_M_sumOf_23, e_M_sumOf_24, e_M_sumOf_25, e_M_sumOf_26, e_M_sumOf_29, e_M_sumOf_31, e_M_sumOf_32, e_M_sumOf_35, e_M_sumOf_37, e_M_sumOf_38, e_M_sumOf_39, e_M_sumOf_42, e_M_sumOf_43, e_M_sumOf_45, e_M_sumOf_46, e_M_sumOf_48, e_M_sumOf_51, e_M_sumOf_54, e_M_sumOf_55, e_M_sumOf_58, e_M_sumOf_60, e_M_sumOf_61, e_M_sumOf_64, e_M_sumOf_65, e_M_sumOf_66, e_M_sumOf_68, e_M_sumOf_71, e_M_sumOf_74, e_M_sumOf_76, hm, if_true]
  · have n1 : ∀ q, ¬ q = 98 → ∀ f, pm_up I 98 f q = I q := fun q h f => pu_ne h
    have hbf := bad_nI (k := f) (n := 5) hf (by decide)
    have hcf := nI_clamp (n := f) (by omega)
    have h10 := hok.2.1
    have hfn : (nI f < 0) = False := eq_false (nI_pos (by omega))
    have m10 : (10 : Int32) * nI f = nI (10 * f) := pk_mul 10 f
    have A : ∀ (n k : Nat) (a : Int32) (p : Nat → Int32), k + n = wnI I (45 + 5 * f) → ∃ p', ∀ (d : Nat) (Q : pm_O → Prop), pm_V X (d + 3) 133 9 [some (.ref 82), some (.int which), some (.int (nI f)), some (.int hour), some (.int warm), some (.int a), some (.int (nI (10 * f + k)))] [] (pm_S0 ++ g, pm_up I 98 p, J) Q = Q (some (.int (fld (fun c a => if I (45 + 5 * f + 1) c = which ∧ holdsC (I (45 + 5 * f + 4)) (enI I (45 + 5 * f)) c hour warm = true then a + I (45 + 5 * f + 2) c else a) k n a)), (pm_S0 ++ g, pm_up I 98 p', J)) := by
      intro n
      induction n with
      | zero =>
        intro k a p hk
        refine ⟨p, fun d Q => ?_⟩
        have hle : (nI (10 * f + wnI I (45 + 5 * f)) ≤ nI (10 * f + k)) = True := by
          rw [nI_le_l (by omega) (by omega)]
          exact eq_true (by omega)
        rw [e_M_sumOf_9]
        simp only [e_M_sumOf_0, e_M_sumOf_1, e_M_sumOf_3, e_M_sumOf_5, e_M_sumOf_6, e_M_sumOf_7, e_M_sumOf_10, e_M_sumOf_13, e_M_sumOf_15, e_M_sumOf_17, e_M_sumOf_18, e_M_sumOf_19, e_M_sumOf_20, e_M_sumOf_23, e_M_sumOf_24, e_M_sumOf_25, e_M_sumOf_26, e_M_sumOf_29, e_M_sumOf_31, e_M_sumOf_32, e_M_sumOf_35, e_M_sumOf_37, e_M_sumOf_38, e_M_sumOf_39, e_M_sumOf_42, e_M_sumOf_43, e_M_sumOf_45, e_M_sumOf_46, e_M_sumOf_48, e_M_sumOf_51, e_M_sumOf_54, e_M_sumOf_55, e_M_sumOf_58, e_M_sumOf_60, e_M_sumOf_61, e_M_sumOf_64, e_M_sumOf_65, e_M_sumOf_66, e_M_sumOf_68, e_M_sumOf_71, e_M_sumOf_74, e_M_sumOf_76, hfn, if_false, if_true, sh_r_82_15, sh_i_91, pm_opt_some, pm_opt_if, hbf, hcf, true_and, n1 91 (by decide), h91, m10, nI_add, hle, fld]
      | succ n ih =>
        intro k a p hk
        obtain ⟨b1, b2, b3, b4⟩ := hc k (by omega)
        have hle : (nI (10 * f + wnI I (45 + 5 * f)) ≤ nI (10 * f + k)) = False := by
          rw [nI_le_l (by omega) (by omega)]
          exact eq_false (by omega)
        have hbk := bad_nI (k := 10 * f + k) (n := 50) (by omega) (by decide)
        have hck := nI_clamp (n := 10 * f + k) (by omega)
        by_cases q : I (45 + 5 * f + 1) k = which
        · have hq : clR I (45 + 5 * f) k (10 * f + k) := by
            rcases b4 with b4 | b4
            · exact absurd (q.symm.trans b4) h3
            · exact b4.2
          obtain ⟨p1, hp1⟩ := K_M_holds (X := X) (g := g) (J := J) (hour := hour) (warm := warm) (p := p) hw (by omega) hq
          obtain ⟨p', hp'⟩ := ih (k + 1) (if holdsC (I (45 + 5 * f + 4)) (enI I (45 + 5 * f)) k hour warm = true then a + I (45 + 5 * f + 2) k else a) p1 (by omega)
          refine ⟨p', fun d Q => ?_⟩
          rw [fld]
          simp only [q, true_and]
          rw [← hp' d Q]
          rw [e_M_sumOf_9]
          simp only [e_M_sumOf_0, e_M_sumOf_1, e_M_sumOf_3, e_M_sumOf_5, e_M_sumOf_6, e_M_sumOf_7, e_M_sumOf_10, e_M_sumOf_13, e_M_sumOf_15, e_M_sumOf_17, e_M_sumOf_18, e_M_sumOf_19, e_M_sumOf_20, e_M_sumOf_23, e_M_sumOf_24, e_M_sumOf_25, e_M_sumOf_26, e_M_sumOf_29, e_M_sumOf_31, e_M_sumOf_32, e_M_sumOf_35, e_M_sumOf_37, e_M_sumOf_38, e_M_sumOf_39, e_M_sumOf_42, e_M_sumOf_43, e_M_sumOf_45, e_M_sumOf_46, e_M_sumOf_48, e_M_sumOf_51, e_M_sumOf_54, e_M_sumOf_55, e_M_sumOf_58, e_M_sumOf_60, e_M_sumOf_61, e_M_sumOf_64, e_M_sumOf_65, e_M_sumOf_66, e_M_sumOf_68, e_M_sumOf_71, e_M_sumOf_74, e_M_sumOf_76, hfn, if_false, sh_o_82, sh_r_82_15, sh_r_82_16, sh_r_82_17, sh_i_91, sh_i_92, sh_i_93, pm_opt_some, pm_opt_if, hbf, hcf, hbk, hck, true_and, n1 91 (by decide), n1 92 (by decide), n1 93 (by decide), h91, b1, b2, m10, nI_add, hle, q, not_true_eq_false, hp1, pk_i, nI_1, ← Nat.add_assoc]
          by_cases q2 : holdsC (I (45 + 5 * f + 4)) (enI I (45 + 5 * f)) k hour warm = true
          · simp [q2]
          · simp [q2]
        · obtain ⟨p', hp'⟩ := ih (k + 1) a p (by omega)
          refine ⟨p', fun d Q => ?_⟩
          rw [fld]
          simp only [q, false_and, if_false]
          rw [← hp' d Q]
          rw [e_M_sumOf_9]
          simp only [e_M_sumOf_0, e_M_sumOf_1, e_M_sumOf_3, e_M_sumOf_5, e_M_sumOf_6, e_M_sumOf_7, e_M_sumOf_10, e_M_sumOf_13, e_M_sumOf_15, e_M_sumOf_17, e_M_sumOf_18, e_M_sumOf_19, e_M_sumOf_20, e_M_sumOf_23, e_M_sumOf_24, e_M_sumOf_25, e_M_sumOf_26, e_M_sumOf_29, e_M_sumOf_31, e_M_sumOf_32, e_M_sumOf_35, e_M_sumOf_37, e_M_sumOf_38, e_M_sumOf_39, e_M_sumOf_42, e_M_sumOf_43, e_M_sumOf_45, e_M_sumOf_46, e_M_sumOf_48, e_M_sumOf_51, e_M_sumOf_54, e_M_sumOf_55, e_M_sumOf_58, e_M_sumOf_60, e_M_sumOf_61, e_M_sumOf_64, e_M_sumOf_65, e_M_sumOf_66, e_M_sumOf_68, e_M_sumOf_71, e_M_sumOf_74, e_M_sumOf_76, hfn, if_false, sh_o_82, sh_r_82_15, sh_r_82_16, sh_r_82_17, sh_i_91, sh_i_92, sh_i_93, pm_opt_some, pm_opt_if, hbf, hcf, hbk, hck, true_and, n1 91 (by decide), n1 92 (by decide), n1 93 (by decide), h91, b1, b2, m10, nI_add, hle, q, not_false_eq_true, if_true, nI_1, Int32.add_zero, ← Nat.add_assoc]
    obtain ⟨p', hp'⟩ := A (wnI I (45 + 5 * f)) 0 0 p (by omega)
    refine ⟨p', fun d P => ?_⟩
    refine K_of (k := 3) (fun d' => ?_)
    show pm_V X (d' + 3) 133 0 [some (.ref 82), some (.int which), some (.int (nI f)), some (.int hour), some (.int warm), none, none] [] (pm_S0 ++ g, pm_up I 98 p, J) _
    simp only [e_M_sumOf_0, e_M_sumOf_1, e_M_sumOf_3, e_M_sumOf_5, e_M_sumOf_6, e_M_sumOf_7, e_M_sumOf_10, e_M_sumOf_13, e_M_sumOf_15, e_M_sumOf_17, e_M_sumOf_18, e_M_sumOf_19, e_M_sumOf_20, e_M_sumOf_23, e_M_sumOf_24, e_M_sumOf_25, e_M_sumOf_26, e_M_sumOf_29, e_M_sumOf_31, e_M_sumOf_32, e_M_sumOf_35, e_M_sumOf_37, e_M_sumOf_38, e_M_sumOf_39, e_M_sumOf_42, e_M_sumOf_43, e_M_sumOf_45, e_M_sumOf_46, e_M_sumOf_48, e_M_sumOf_51, e_M_sumOf_54, e_M_sumOf_55, e_M_sumOf_58, e_M_sumOf_60, e_M_sumOf_61, e_M_sumOf_64, e_M_sumOf_65, e_M_sumOf_66, e_M_sumOf_68, e_M_sumOf_71, e_M_sumOf_74, e_M_sumOf_76, m10]
    rw [Nat.add_zero] at hp'
    rw [hp']
    rfl
theorem K_M_frostOf {hour warm : Int32} {p : Nat → Int32} (hX : WX I w fi) (hw : warm = 0 ∨ warm = 1) : ∃ p', ∀ (d : Nat) (P : pm_O → Prop), pm_cl X (d + 5) 136 [.ref 82, .int fi, .int hour, .int warm] (pm_S0 ++ g, pm_up I 98 p, J) P = P (some (.int (frI I w hour warm)), (pm_S0 ++ g, pm_up I 98 p', J)) := by
  obtain ⟨p1, h1⟩ := K_M_sumOf (X := X) (g := g) (J := J) (which := 0) (hour := hour) (warm := warm) (p := p) hX hw (by decide)
  obtain ⟨p2, h2⟩ := K_M_sumOf (X := X) (g := g) (J := J) (which := 1) (hour := hour) (warm := warm) (p := p1) hX hw (by decide)
  refine ⟨p2, fun d P => ?_⟩
  refine K_of (k := 4) (fun d' => ?_)
  show pm_V X (d' + 4) 136 0 [some (.ref 82), some (.int fi), some (.int hour), some (.int warm)] [] (pm_S0 ++ g, pm_up I 98 p, J) _
  simp only [e_M_frostOf_0, e_M_frostOf_1, e_M_frostOf_2, e_M_frostOf_3, e_M_frostOf_4, e_M_frostOf_5, e_M_frostOf_8, e_M_frostOf_9, e_M_frostOf_10, e_M_frostOf_11, e_M_frostOf_12, e_M_frostOf_13, e_M_frostOf_16, e_M_frostOf_17, sh_o_82, true_and, h1, h2, pk_i]
  rfl
theorem K_M_bearsNow (hX : WX I w (I 82 10)) : pm_cl X (d + 1) 134 [.ref 82] (pm_S0 ++ g, I, J) P = P (some (.int (wbI I w)), (pm_S0 ++ g, I, J)) := by
  have mx : ∀ n : Int32, (if 1 ≤ n then n else 1) = maxI 1 n := by
    intro n
    have h1 : (1 : Int32).toInt = 1 := rfl
    by_cases q : 1 ≤ n
    · rw [if_pos q, i_eq, maxI_toInt]
      rw [i_le] at q
      omega
    · rw [if_neg q, i_eq, maxI_toInt]
      rw [i_le] at q
      omega
  have tail : ∀ (d : Nat) (Q : pm_O → Prop) (n c : Int32), pm_V X d 134 66 [some (.ref 82), some (.int n), some (.int c)] [] (pm_S0 ++ g, I, J) Q = Q (some (.int (maxI 1 n)), (pm_S0 ++ g, I, J)) := by
    intro d Q n c
    simp only [e_M_bearsNow_0, e_M_bearsNow_2, e_M_bearsNow_3, e_M_bearsNow_5, e_M_bearsNow_6, e_M_bearsNow_9, e_M_bearsNow_10, e_M_bearsNow_12, e_M_bearsNow_15, e_M_bearsNow_18, e_M_bearsNow_19, e_M_bearsNow_21, e_M_bearsNow_22, e_M_bearsNow_25, e_M_bearsNow_26, e_M_bearsNow_27, e_M_bearsNow_30, e_M_bearsNow_31, e_M_bearsNow_34, e_M_bearsNow_35, e_M_bearsNow_36, e_M_bearsNow_39, e_M_bearsNow_40, e_M_bearsNow_43, e_M_bearsNow_44, e_M_bearsNow_45, e_M_bearsNow_46, e_M_bearsNow_49, e_M_bearsNow_50, e_M_bearsNow_53, e_M_bearsNow_54, e_M_bearsNow_55, e_M_bearsNow_58, e_M_bearsNow_59, e_M_bearsNow_60, e_M_bearsNow_63, e_M_bearsNow_66, e_M_bearsNow_67, e_M_bearsNow_68, e_M_bearsNow_71, e_M_bearsNow_72, e_M_bearsNow_75, e_M_bearsNow_76]
    rw [← mx]
    by_cases q : 1 ≤ n
    · simp [q]
    · simp [q]
  rcases hX with ⟨e, rfl, h0⟩ | ⟨f, hf, e, rfl, hok, h91, hc⟩
  · have e1 : wnI I 26 = 0 := by unfold wnI; rw [h0]; decide
    have e2 : wbI I 26 = maxI 1 10 := by unfold wbI; rw [e1]; rfl
    have hm : ((-1 : Int32) < 0) = True := by decide
    rw [e2]
    refine K_of (k := 0) (fun d' => ?_)
    show pm_V X d' 134 0 [some (.ref 82), none, none] [] (pm_S0 ++ g, I, J) _
    simp only [e_M_bearsNow_0, e_M_bearsNow_2, e_M_bearsNow_3, e_M_bearsNow_5, e_M_bearsNow_6, e_M_bearsNow_9, e_M_bearsNow_10, e_M_bearsNow_11, e_M_bearsNow_12, e_M_bearsNow_15, e_M_bearsNow_18, e_M_bearsNow_19, e_M_bearsNow_21, e_M_bearsNow_22, e_M_bearsNow_25, e_M_bearsNow_26, e_M_bearsNow_27, e_M_bearsNow_30, e_M_bearsNow_31, e_M_bearsNow_34, e_M_bearsNow_35, e_M_bearsNow_36, e_M_bearsNow_39, e_M_bearsNow_40, e_M_bearsNow_43, e_M_bearsNow_44, e_M_bearsNow_45, e_M_bearsNow_46, e_M_bearsNow_49, e_M_bearsNow_50, e_M_bearsNow_53, e_M_bearsNow_54, e_M_bearsNow_55, e_M_bearsNow_58, e_M_bearsNow_59, e_M_bearsNow_60, e_M_bearsNow_63, e_M_bearsNow_67, e_M_bearsNow_68, e_M_bearsNow_71, e_M_bearsNow_72, e_M_bearsNow_75, e_M_bearsNow_76, sh_o_82, true_and, e, hm, if_true, tail]
  · have hbf := bad_nI (k := f) (n := 5) hf (by decide)
    have hcf := nI_clamp (n := f) (by omega)
    have h10 := hok.2.1
    have hfn : (nI f < 0) = False := eq_false (nI_pos (by omega))
    have m10 : (10 : Int32) * nI f = nI (10 * f) := pk_mul 10 f
    refine K_of (k := 0) (fun d' => ?_)
    have L := fun (Q : pm_O → Prop) => pm_lp (fun k a => pm_V X d' 134 11 [some (.ref 82), some (.int a), some (.int (nI (10 * f + k)))] [] (pm_S0 ++ g, I, J) Q) (fun c a => if I (45 + 5 * f + 1) c = 3 then I (45 + 5 * f + 2) c else a) (wnI I (45 + 5 * f)) (by
      intro k a hk
      obtain ⟨b1, b2, b3, b4⟩ := hc k (by omega)
      have hle : (nI (10 * f + wnI I (45 + 5 * f)) ≤ nI (10 * f + k)) = False := by
        rw [nI_le_l (by omega) (by omega)]
        exact eq_false (by omega)
      have hbk := bad_nI (k := 10 * f + k) (n := 50) (by omega) (by decide)
      have hck := nI_clamp (n := 10 * f + k) (by omega)
      show pm_V X d' 134 11 [some (.ref 82), some (.int a), some (.int (nI (10 * f + k)))] [] (pm_S0 ++ g, I, J) Q = _
      rw [e_M_bearsNow_11]
      simp only [e_M_bearsNow_0, e_M_bearsNow_2, e_M_bearsNow_3, e_M_bearsNow_5, e_M_bearsNow_6, e_M_bearsNow_9, e_M_bearsNow_10, e_M_bearsNow_12, e_M_bearsNow_15, e_M_bearsNow_18, e_M_bearsNow_19, e_M_bearsNow_21, e_M_bearsNow_22, e_M_bearsNow_25, e_M_bearsNow_26, e_M_bearsNow_27, e_M_bearsNow_30, e_M_bearsNow_31, e_M_bearsNow_34, e_M_bearsNow_35, e_M_bearsNow_36, e_M_bearsNow_39, e_M_bearsNow_40, e_M_bearsNow_43, e_M_bearsNow_44, e_M_bearsNow_45, e_M_bearsNow_46, e_M_bearsNow_49, e_M_bearsNow_50, e_M_bearsNow_53, e_M_bearsNow_54, e_M_bearsNow_55, e_M_bearsNow_58, e_M_bearsNow_59, e_M_bearsNow_60, e_M_bearsNow_63, e_M_bearsNow_67, e_M_bearsNow_68, e_M_bearsNow_71, e_M_bearsNow_72, e_M_bearsNow_75, e_M_bearsNow_76, sh_o_82, hfn, if_false, sh_r_82_15, sh_r_82_16, sh_r_82_17, sh_i_91, sh_i_92, sh_i_93, pm_opt_some, pm_opt_if, hbf, hcf, hbk, hck, true_and, e, h91, b1, b2, m10, nI_add, hle, nI_1, ← Nat.add_assoc]
      by_cases q : I (45 + 5 * f + 1) k = 3
      · simp [q]
      · simp [q]) (wnI I (45 + 5 * f)) 0 10 (by omega)
    rw [Nat.add_zero] at L
    show pm_V X d' 134 0 [some (.ref 82), none, none] [] (pm_S0 ++ g, I, J) _
    simp only [e_M_bearsNow_0, e_M_bearsNow_2, e_M_bearsNow_3, e_M_bearsNow_5, e_M_bearsNow_6, e_M_bearsNow_9, e_M_bearsNow_10, e_M_bearsNow_12, e_M_bearsNow_15, e_M_bearsNow_18, e_M_bearsNow_19, e_M_bearsNow_21, e_M_bearsNow_22, e_M_bearsNow_25, e_M_bearsNow_26, e_M_bearsNow_27, e_M_bearsNow_30, e_M_bearsNow_31, e_M_bearsNow_34, e_M_bearsNow_35, e_M_bearsNow_36, e_M_bearsNow_39, e_M_bearsNow_40, e_M_bearsNow_43, e_M_bearsNow_44, e_M_bearsNow_45, e_M_bearsNow_46, e_M_bearsNow_49, e_M_bearsNow_50, e_M_bearsNow_53, e_M_bearsNow_54, e_M_bearsNow_55, e_M_bearsNow_58, e_M_bearsNow_59, e_M_bearsNow_60, e_M_bearsNow_63, e_M_bearsNow_67, e_M_bearsNow_68, e_M_bearsNow_71, e_M_bearsNow_72, e_M_bearsNow_75, e_M_bearsNow_76, sh_o_82, true_and, e, m10]
    rw [L, e_M_bearsNow_11]
    simp only [e_M_bearsNow_0, e_M_bearsNow_2, e_M_bearsNow_3, e_M_bearsNow_5, e_M_bearsNow_6, e_M_bearsNow_9, e_M_bearsNow_10, e_M_bearsNow_12, e_M_bearsNow_15, e_M_bearsNow_18, e_M_bearsNow_19, e_M_bearsNow_21, e_M_bearsNow_22, e_M_bearsNow_25, e_M_bearsNow_26, e_M_bearsNow_27, e_M_bearsNow_30, e_M_bearsNow_31, e_M_bearsNow_34, e_M_bearsNow_35, e_M_bearsNow_36, e_M_bearsNow_39, e_M_bearsNow_40, e_M_bearsNow_43, e_M_bearsNow_44, e_M_bearsNow_45, e_M_bearsNow_46, e_M_bearsNow_49, e_M_bearsNow_50, e_M_bearsNow_53, e_M_bearsNow_54, e_M_bearsNow_55, e_M_bearsNow_58, e_M_bearsNow_59, e_M_bearsNow_60, e_M_bearsNow_63, e_M_bearsNow_67, e_M_bearsNow_68, e_M_bearsNow_71, e_M_bearsNow_72, e_M_bearsNow_75, e_M_bearsNow_76, sh_o_82, hfn, if_false, sh_r_82_15, sh_i_91, pm_opt_some, pm_opt_if, hbf, hcf, true_and, e, h91, m10, nI_add, Int32.le_refl, if_true, tail]
    rfl
end P32
