/-! THE LAW, its cases and its loop (printed by wip/whole/gen_law.py) -/
section P60
variable {X : pm_X} {d : Nat} {P Q : pm_O → Prop} {g g' : List pm_S} {I I' I1 : Nat → Nat → Int32} {J J' : Nat → Nat → Int64} {i q : Nat}
theorem ia_sc (hg : g.length ≤ 600) (hq : q < X.1) (hX : X.1 < 2 ^ 31) : pm_ia X (pm_S0 ++ g) I 1000000 (nI q) = some (X.2.1 q) := by
  unfold pm_ia
  rw [out_none hg (by omega)]
  show (if pm_bad (nI q) X.1 = true then none else some (X.2.1 (nI q).toNatClampNeg)) = _
  rw [bad_nI hq hX, nI_clamp (by omega)]
  rfl
theorem ln_sc (hg : g.length ≤ 600) : pm_len X (pm_S0 ++ g) 1000000 = some (nI X.1) := by
  unfold pm_len
  rw [out_none hg (by omega)]
  rfl
theorem vk_int {m : Nat} {v : Value} (h : pm_vkb m v = true) (hm : (pm_rk m == 3) = false) : ∃ x, v = .int x := by
  cases v with
  | int x => exact ⟨x, rfl⟩
  | long x =>
    simp only [pm_vkb, hm] at h
    cases h
  | _ => exact absurd h (by simp [pm_vkb])
theorem vk_long {m : Nat} {v : Value} (h : pm_vkb m v = true) (hm : (pm_rk m == 3) = true) : ∃ x, v = .long x := by
  cases v with
  | long x => exact ⟨x, rfl⟩
  | int x =>
    simp only [pm_vkb, bne, hm] at h
    cases h
  | _ => exact absurd h (by simp [pm_vkb])
theorem gs_len (h : pm_grw g g') : g'.length ≤ g.length + 1 := by
  rcases h with rfl | ⟨rs, _, rfl⟩
  · omega
  · simp
theorem pk_lawI {pc : Nat} {y : Int32} {st : List Value} (hst : pm_wfs (pm_S0 ++ g).length [some (.ref 1000000), some (.ref 0), some (.ref 82), some (.int (nI i))] st = true) : pm_k X d 192 pc [some (.ref 1000000), some (.ref 0), some (.ref 82), some (.int (nI i))] st (pm_S0 ++ g).length Q (some (.int y), (pm_S0 ++ g', I, J)) = pm_V X d 192 pc [some (.ref 1000000), some (.ref 0), some (.ref 82), some (.int (nI i))] (.int y :: st) (pm_S0 ++ g', I, J) Q := by
  unfold pm_k
  refine propext ⟨fun h => h.2, fun h => ⟨?_, h⟩⟩
  show (true && ((pm_S0 ++ g').length == (pm_S0 ++ g).length || _)) = true
  rw [hst, Bool.or_true]
  rfl
theorem pk_lawL {pc : Nat} {y : Int64} {st : List Value} (hst : pm_wfs (pm_S0 ++ g).length [some (.ref 1000000), some (.ref 0), some (.ref 82), some (.int (nI i))] st = true) : pm_k X d 192 pc [some (.ref 1000000), some (.ref 0), some (.ref 82), some (.int (nI i))] st (pm_S0 ++ g).length Q (some (.long y), (pm_S0 ++ g', I, J)) = pm_V X d 192 pc [some (.ref 1000000), some (.ref 0), some (.ref 82), some (.int (nI i))] (.long y :: st) (pm_S0 ++ g', I, J) Q := by
  unfold pm_k
  refine propext ⟨fun h => h.2, fun h => ⟨?_, h⟩⟩
  show (true && ((pm_S0 ++ g').length == (pm_S0 ++ g).length || _)) = true
  rw [hst, Bool.or_true]
  rfl
theorem wf_0 : pm_wfs (pm_S0 ++ g).length [some (.ref 1000000), some (.ref 0), some (.ref 82), some (.int (nI i))] [] = true := by
  have h : 82 < (pm_S0 ++ g).length := by
    rw [List.length_append, S0_len]
    omega
  generalize (pm_S0 ++ g).length = n at h
  have h0 : 0 < n := by omega
  have h1 : 82 < n := h
  simp [pm_wfs, pm_wfo, pm_wfv, h0, h1]
theorem wf_I {y : Int32} : pm_wfs (pm_S0 ++ g).length [some (.ref 1000000), some (.ref 0), some (.ref 82), some (.int (nI i))] [.int y] = true := by
  have h : 82 < (pm_S0 ++ g).length := by
    rw [List.length_append, S0_len]
    omega
  generalize (pm_S0 ++ g).length = n at h
  have h0 : 0 < n := by omega
  have h1 : 82 < n := h
  simp [pm_wfs, pm_wfo, pm_wfv, h0, h1]
theorem wf_L {y : Int64} : pm_wfs (pm_S0 ++ g).length [some (.ref 1000000), some (.ref 0), some (.ref 82), some (.int (nI i))] [.long y] = true := by
  have h : 82 < (pm_S0 ++ g).length := by
    rw [List.length_append, S0_len]
    omega
  generalize (pm_S0 ++ g).length = n at h
  have h0 : 0 < n := by omega
  have h1 : 82 < n := h
  simp [pm_wfs, pm_wfo, pm_wfv, h0, h1]
theorem lg_self (y : Int64) : lg_cmp y y = 0 := by
  unfold lg_cmp
  simp
theorem LC_lay (hg : g.length ≤ 599) (hi : i + 6 ≤ X.1) (hX : X.1 ≤ 3072) (hP : Pair X 1 113 [.int (X.2.1 (i + 1)), .int (X.2.1 (i + 2)), .int (X.2.1 (i + 3)), .int (X.2.1 (i + 4))] g I J) : ∃ g' I2 J2, Rel I2 J2 ∧ pm_grw g g' ∧ ∀ (d : Nat) (Q : pm_O → Prop), pm_V X (d + 50) 192 188 [some (.ref 1000000), some (.ref 0), some (.ref 82), some (.int (nI i))] [] (pm_S0 ++ g, I, J) Q = pm_V X (d + 50) 192 1291 [some (.ref 1000000), some (.ref 0), some (.ref 82), some (.int (nI i))] [] (pm_S0 ++ g', I2, J2) Q := by
  obtain ⟨v, g', I1, J1, I2, J2, hR, hgs, hv, hB, hM⟩ := hP
  obtain ⟨y, rfl⟩ := vk_int hv rfl
  have hl := gs_len hgs
  refine ⟨g', I2, J2, hR, hgs, fun d Q => ?_⟩
  have a1 : nI i + 1 = nI (i + 1) := nI_add i 1
  have a2 : nI i + 2 = nI (i + 2) := nI_add i 2
  have a3 : nI i + 3 = nI (i + 3) := nI_add i 3
  have a4 : nI i + 4 = nI (i + 4) := nI_add i 4
  have a5 : nI i + 5 = nI (i + 5) := nI_add i 5
  have sc := fun (q : Nat) (hq : q < i + 6) (I : Nat → Nat → Int32) => ia_sc (X := X) (I := I) (show g.length ≤ 600 by omega) (show q < X.1 by omega) (by omega)
  have sc' := fun (q : Nat) (hq : q < i + 6) (I : Nat → Nat → Int32) => ia_sc (X := X) (I := I) (show g'.length ≤ 600 by omega) (show q < X.1 by omega) (by omega)
  simp only [e_L_law_188, e_L_law_189, e_L_law_190, e_L_law_191, e_L_law_192, e_L_law_193, e_L_law_194, e_L_law_195, e_L_law_196, e_L_law_197, e_L_law_198, e_L_law_199, e_L_law_200, e_L_law_201, e_L_law_202, e_L_law_203, e_L_law_204, e_L_law_205, e_L_law_206, e_L_law_207, e_L_law_208, e_L_law_209, e_L_law_212, e_L_law_213, e_L_law_214, e_L_law_215, e_L_law_216, e_L_law_217, e_L_law_218, e_L_law_219, e_L_law_220, e_L_law_221, e_L_law_222, e_L_law_223, e_L_law_224, e_L_law_225, e_L_law_226, e_L_law_227, e_L_law_228, e_L_law_229, e_L_law_230, e_L_law_231, e_L_law_232, e_L_law_233, e_L_law_236, e_L_law_239, e_L_law_240, a1, a2, a3, a4, a5, sc (i + 1) (by omega), sc' (i + 1) (by omega), sc (i + 2) (by omega), sc' (i + 2) (by omega), sc (i + 3) (by omega), sc' (i + 3) (by omega), sc (i + 4) (by omega), sc' (i + 4) (by omega), sc (i + 5) (by omega), sc' (i + 5) (by omega), sh_o_0, sh_o_82, hB, hM, pk_lawI wf_0, pk_lawI wf_I, pm_opt_some, if_true, true_and, eq_self, q10, q00, if_false, not_true_eq_false, not_false_eq_true]
theorem LC_of (hg : g.length ≤ 599) (hi : i + 6 ≤ X.1) (hX : X.1 ≤ 3072) (hP : Pair X 2 149 [.int (X.2.1 (i + 1)), .int (X.2.1 (i + 2))] g I J) : ∃ g' I2 J2, Rel I2 J2 ∧ pm_grw g g' ∧ ∀ (d : Nat) (Q : pm_O → Prop), pm_V X (d + 50) 192 241 [some (.ref 1000000), some (.ref 0), some (.ref 82), some (.int (nI i))] [] (pm_S0 ++ g, I, J) Q = pm_V X (d + 50) 192 1291 [some (.ref 1000000), some (.ref 0), some (.ref 82), some (.int (nI i))] [] (pm_S0 ++ g', I2, J2) Q := by
  obtain ⟨v, g', I1, J1, I2, J2, hR, hgs, hv, hB, hM⟩ := hP
  obtain ⟨y, rfl⟩ := vk_int hv rfl
  have hl := gs_len hgs
  refine ⟨g', I2, J2, hR, hgs, fun d Q => ?_⟩
  have a1 : nI i + 1 = nI (i + 1) := nI_add i 1
  have a2 : nI i + 2 = nI (i + 2) := nI_add i 2
  have a3 : nI i + 3 = nI (i + 3) := nI_add i 3
  have a4 : nI i + 4 = nI (i + 4) := nI_add i 4
  have a5 : nI i + 5 = nI (i + 5) := nI_add i 5
  have sc := fun (q : Nat) (hq : q < i + 6) (I : Nat → Nat → Int32) => ia_sc (X := X) (I := I) (show g.length ≤ 600 by omega) (show q < X.1 by omega) (by omega)
  have sc' := fun (q : Nat) (hq : q < i + 6) (I : Nat → Nat → Int32) => ia_sc (X := X) (I := I) (show g'.length ≤ 600 by omega) (show q < X.1 by omega) (by omega)
  simp only [e_L_law_241, e_L_law_242, e_L_law_243, e_L_law_244, e_L_law_245, e_L_law_246, e_L_law_247, e_L_law_248, e_L_law_249, e_L_law_250, e_L_law_251, e_L_law_252, e_L_law_255, e_L_law_256, e_L_law_257, e_L_law_258, e_L_law_259, e_L_law_260, e_L_law_261, e_L_law_262, e_L_law_263, e_L_law_264, e_L_law_265, e_L_law_266, e_L_law_269, e_L_law_272, e_L_law_273, a1, a2, a3, a4, a5, sc (i + 1) (by omega), sc' (i + 1) (by omega), sc (i + 2) (by omega), sc' (i + 2) (by omega), sc (i + 3) (by omega), sc' (i + 3) (by omega), sc (i + 4) (by omega), sc' (i + 4) (by omega), sc (i + 5) (by omega), sc' (i + 5) (by omega), sh_o_0, sh_o_82, hB, hM, pk_lawI wf_0, pk_lawI wf_I, pm_opt_some, if_true, true_and, eq_self, q10, q00, if_false, not_true_eq_false, not_false_eq_true]
theorem LC_children (hg : g.length ≤ 599) (hi : i + 6 ≤ X.1) (hX : X.1 ≤ 3072) (hP : Pair X 3 114 [.int (X.2.1 (i + 1)), .int (X.2.1 (i + 2))] g I J) : ∃ g' I2 J2, Rel I2 J2 ∧ pm_grw g g' ∧ ∀ (d : Nat) (Q : pm_O → Prop), pm_V X (d + 50) 192 274 [some (.ref 1000000), some (.ref 0), some (.ref 82), some (.int (nI i))] [] (pm_S0 ++ g, I, J) Q = pm_V X (d + 50) 192 1291 [some (.ref 1000000), some (.ref 0), some (.ref 82), some (.int (nI i))] [] (pm_S0 ++ g', I2, J2) Q := by
  obtain ⟨v, g', I1, J1, I2, J2, hR, hgs, hv, hB, hM⟩ := hP
  obtain ⟨y, rfl⟩ := vk_int hv rfl
  have hl := gs_len hgs
  refine ⟨g', I2, J2, hR, hgs, fun d Q => ?_⟩
  have a1 : nI i + 1 = nI (i + 1) := nI_add i 1
  have a2 : nI i + 2 = nI (i + 2) := nI_add i 2
  have a3 : nI i + 3 = nI (i + 3) := nI_add i 3
  have a4 : nI i + 4 = nI (i + 4) := nI_add i 4
  have a5 : nI i + 5 = nI (i + 5) := nI_add i 5
  have sc := fun (q : Nat) (hq : q < i + 6) (I : Nat → Nat → Int32) => ia_sc (X := X) (I := I) (show g.length ≤ 600 by omega) (show q < X.1 by omega) (by omega)
  have sc' := fun (q : Nat) (hq : q < i + 6) (I : Nat → Nat → Int32) => ia_sc (X := X) (I := I) (show g'.length ≤ 600 by omega) (show q < X.1 by omega) (by omega)
  simp only [e_L_law_274, e_L_law_275, e_L_law_276, e_L_law_277, e_L_law_278, e_L_law_279, e_L_law_280, e_L_law_281, e_L_law_282, e_L_law_283, e_L_law_284, e_L_law_285, e_L_law_288, e_L_law_289, e_L_law_290, e_L_law_291, e_L_law_292, e_L_law_293, e_L_law_294, e_L_law_295, e_L_law_296, e_L_law_297, e_L_law_298, e_L_law_299, e_L_law_302, e_L_law_305, e_L_law_306, a1, a2, a3, a4, a5, sc (i + 1) (by omega), sc' (i + 1) (by omega), sc (i + 2) (by omega), sc' (i + 2) (by omega), sc (i + 3) (by omega), sc' (i + 3) (by omega), sc (i + 4) (by omega), sc' (i + 4) (by omega), sc (i + 5) (by omega), sc' (i + 5) (by omega), sh_o_0, sh_o_82, hB, hM, pk_lawI wf_0, pk_lawI wf_I, pm_opt_some, if_true, true_and, eq_self, q10, q00, if_false, not_true_eq_false, not_false_eq_true]
theorem LC_fall (hg : g.length ≤ 599) (hi : i + 6 ≤ X.1) (hX : X.1 ≤ 3072) (hP : Pair X 4 151 [] g I J) : ∃ g' I2 J2, Rel I2 J2 ∧ pm_grw g g' ∧ ∀ (d : Nat) (Q : pm_O → Prop), pm_V X (d + 50) 192 307 [some (.ref 1000000), some (.ref 0), some (.ref 82), some (.int (nI i))] [] (pm_S0 ++ g, I, J) Q = pm_V X (d + 50) 192 1291 [some (.ref 1000000), some (.ref 0), some (.ref 82), some (.int (nI i))] [] (pm_S0 ++ g', I2, J2) Q := by
  obtain ⟨v, g', I1, J1, I2, J2, hR, hgs, hv, hB, hM⟩ := hP
  obtain ⟨y, rfl⟩ := vk_int hv rfl
  have hl := gs_len hgs
  refine ⟨g', I2, J2, hR, hgs, fun d Q => ?_⟩
  have a1 : nI i + 1 = nI (i + 1) := nI_add i 1
  have a2 : nI i + 2 = nI (i + 2) := nI_add i 2
  have a3 : nI i + 3 = nI (i + 3) := nI_add i 3
  have a4 : nI i + 4 = nI (i + 4) := nI_add i 4
  have a5 : nI i + 5 = nI (i + 5) := nI_add i 5
  have sc := fun (q : Nat) (hq : q < i + 6) (I : Nat → Nat → Int32) => ia_sc (X := X) (I := I) (show g.length ≤ 600 by omega) (show q < X.1 by omega) (by omega)
  have sc' := fun (q : Nat) (hq : q < i + 6) (I : Nat → Nat → Int32) => ia_sc (X := X) (I := I) (show g'.length ≤ 600 by omega) (show q < X.1 by omega) (by omega)
  simp only [e_L_law_307, e_L_law_308, e_L_law_311, e_L_law_312, e_L_law_315, e_L_law_318, e_L_law_319, a1, a2, a3, a4, a5, sc (i + 1) (by omega), sc' (i + 1) (by omega), sc (i + 2) (by omega), sc' (i + 2) (by omega), sc (i + 3) (by omega), sc' (i + 3) (by omega), sc (i + 4) (by omega), sc' (i + 4) (by omega), sc (i + 5) (by omega), sc' (i + 5) (by omega), sh_o_0, sh_o_82, hB, hM, pk_lawI wf_0, pk_lawI wf_I, pm_opt_some, if_true, true_and, eq_self, q10, q00, if_false, not_true_eq_false, not_false_eq_true]
theorem LC_feed (hg : g.length ≤ 599) (hi : i + 6 ≤ X.1) (hX : X.1 ≤ 3072) (hP : Pair X 5 117 [.int (X.2.1 (i + 1)), .int (X.2.1 (i + 2))] g I J) : ∃ g' I2 J2, Rel I2 J2 ∧ pm_grw g g' ∧ ∀ (d : Nat) (Q : pm_O → Prop), pm_V X (d + 50) 192 320 [some (.ref 1000000), some (.ref 0), some (.ref 82), some (.int (nI i))] [] (pm_S0 ++ g, I, J) Q = pm_V X (d + 50) 192 1291 [some (.ref 1000000), some (.ref 0), some (.ref 82), some (.int (nI i))] [] (pm_S0 ++ g', I2, J2) Q := by
  obtain ⟨v, g', I1, J1, I2, J2, hR, hgs, hv, hB, hM⟩ := hP
  obtain ⟨y, rfl⟩ := vk_int hv rfl
  have hl := gs_len hgs
  refine ⟨g', I2, J2, hR, hgs, fun d Q => ?_⟩
  have a1 : nI i + 1 = nI (i + 1) := nI_add i 1
  have a2 : nI i + 2 = nI (i + 2) := nI_add i 2
  have a3 : nI i + 3 = nI (i + 3) := nI_add i 3
  have a4 : nI i + 4 = nI (i + 4) := nI_add i 4
  have a5 : nI i + 5 = nI (i + 5) := nI_add i 5
  have sc := fun (q : Nat) (hq : q < i + 6) (I : Nat → Nat → Int32) => ia_sc (X := X) (I := I) (show g.length ≤ 600 by omega) (show q < X.1 by omega) (by omega)
  have sc' := fun (q : Nat) (hq : q < i + 6) (I : Nat → Nat → Int32) => ia_sc (X := X) (I := I) (show g'.length ≤ 600 by omega) (show q < X.1 by omega) (by omega)
  simp only [e_L_law_320, e_L_law_321, e_L_law_322, e_L_law_323, e_L_law_324, e_L_law_325, e_L_law_326, e_L_law_327, e_L_law_328, e_L_law_329, e_L_law_330, e_L_law_331, e_L_law_334, e_L_law_335, e_L_law_336, e_L_law_337, e_L_law_338, e_L_law_339, e_L_law_340, e_L_law_341, e_L_law_342, e_L_law_343, e_L_law_344, e_L_law_345, e_L_law_348, e_L_law_351, e_L_law_352, a1, a2, a3, a4, a5, sc (i + 1) (by omega), sc' (i + 1) (by omega), sc (i + 2) (by omega), sc' (i + 2) (by omega), sc (i + 3) (by omega), sc' (i + 3) (by omega), sc (i + 4) (by omega), sc' (i + 4) (by omega), sc (i + 5) (by omega), sc' (i + 5) (by omega), sh_o_0, sh_o_82, hB, hM, pk_lawI wf_0, pk_lawI wf_I, pm_opt_some, if_true, true_and, eq_self, q10, q00, if_false, not_true_eq_false, not_false_eq_true]
theorem LC_winter (hg : g.length ≤ 599) (hi : i + 6 ≤ X.1) (hX : X.1 ≤ 3072) (hP : Pair X 6 131 [] g I J) : ∃ g' I2 J2, Rel I2 J2 ∧ pm_grw g g' ∧ ∀ (d : Nat) (Q : pm_O → Prop), pm_V X (d + 50) 192 353 [some (.ref 1000000), some (.ref 0), some (.ref 82), some (.int (nI i))] [] (pm_S0 ++ g, I, J) Q = pm_V X (d + 50) 192 1291 [some (.ref 1000000), some (.ref 0), some (.ref 82), some (.int (nI i))] [] (pm_S0 ++ g', I2, J2) Q := by
  obtain ⟨v, g', I1, J1, I2, J2, hR, hgs, hv, hB, hM⟩ := hP
  obtain ⟨y, rfl⟩ := vk_int hv rfl
  have hl := gs_len hgs
  refine ⟨g', I2, J2, hR, hgs, fun d Q => ?_⟩
  have a1 : nI i + 1 = nI (i + 1) := nI_add i 1
  have a2 : nI i + 2 = nI (i + 2) := nI_add i 2
  have a3 : nI i + 3 = nI (i + 3) := nI_add i 3
  have a4 : nI i + 4 = nI (i + 4) := nI_add i 4
  have a5 : nI i + 5 = nI (i + 5) := nI_add i 5
  have sc := fun (q : Nat) (hq : q < i + 6) (I : Nat → Nat → Int32) => ia_sc (X := X) (I := I) (show g.length ≤ 600 by omega) (show q < X.1 by omega) (by omega)
  have sc' := fun (q : Nat) (hq : q < i + 6) (I : Nat → Nat → Int32) => ia_sc (X := X) (I := I) (show g'.length ≤ 600 by omega) (show q < X.1 by omega) (by omega)
  simp only [e_L_law_353, e_L_law_354, e_L_law_357, e_L_law_358, e_L_law_361, e_L_law_364, e_L_law_365, a1, a2, a3, a4, a5, sc (i + 1) (by omega), sc' (i + 1) (by omega), sc (i + 2) (by omega), sc' (i + 2) (by omega), sc (i + 3) (by omega), sc' (i + 3) (by omega), sc (i + 4) (by omega), sc' (i + 4) (by omega), sc (i + 5) (by omega), sc' (i + 5) (by omega), sh_o_0, sh_o_82, hB, hM, pk_lawI wf_0, pk_lawI wf_I, pm_opt_some, if_true, true_and, eq_self, q10, q00, if_false, not_true_eq_false, not_false_eq_true]
theorem LC_told (hg : g.length ≤ 599) (hi : i + 6 ≤ X.1) (hX : X.1 ≤ 3072) (hP : Pair X 7 137 [.int (X.2.1 (i + 1)), .int (X.2.1 (i + 2))] g I J) : ∃ g' I2 J2, Rel I2 J2 ∧ pm_grw g g' ∧ ∀ (d : Nat) (Q : pm_O → Prop), pm_V X (d + 50) 192 366 [some (.ref 1000000), some (.ref 0), some (.ref 82), some (.int (nI i))] [] (pm_S0 ++ g, I, J) Q = pm_V X (d + 50) 192 1291 [some (.ref 1000000), some (.ref 0), some (.ref 82), some (.int (nI i))] [] (pm_S0 ++ g', I2, J2) Q := by
  obtain ⟨v, g', I1, J1, I2, J2, hR, hgs, hv, hB, hM⟩ := hP
  obtain ⟨y, rfl⟩ := vk_int hv rfl
  have hl := gs_len hgs
  refine ⟨g', I2, J2, hR, hgs, fun d Q => ?_⟩
  have a1 : nI i + 1 = nI (i + 1) := nI_add i 1
  have a2 : nI i + 2 = nI (i + 2) := nI_add i 2
  have a3 : nI i + 3 = nI (i + 3) := nI_add i 3
  have a4 : nI i + 4 = nI (i + 4) := nI_add i 4
  have a5 : nI i + 5 = nI (i + 5) := nI_add i 5
  have sc := fun (q : Nat) (hq : q < i + 6) (I : Nat → Nat → Int32) => ia_sc (X := X) (I := I) (show g.length ≤ 600 by omega) (show q < X.1 by omega) (by omega)
  have sc' := fun (q : Nat) (hq : q < i + 6) (I : Nat → Nat → Int32) => ia_sc (X := X) (I := I) (show g'.length ≤ 600 by omega) (show q < X.1 by omega) (by omega)
  simp only [e_L_law_366, e_L_law_367, e_L_law_368, e_L_law_369, e_L_law_370, e_L_law_371, e_L_law_372, e_L_law_373, e_L_law_374, e_L_law_375, e_L_law_376, e_L_law_377, e_L_law_380, e_L_law_381, e_L_law_382, e_L_law_383, e_L_law_384, e_L_law_385, e_L_law_386, e_L_law_387, e_L_law_388, e_L_law_389, e_L_law_390, e_L_law_391, e_L_law_394, e_L_law_397, e_L_law_398, a1, a2, a3, a4, a5, sc (i + 1) (by omega), sc' (i + 1) (by omega), sc (i + 2) (by omega), sc' (i + 2) (by omega), sc (i + 3) (by omega), sc' (i + 3) (by omega), sc (i + 4) (by omega), sc' (i + 4) (by omega), sc (i + 5) (by omega), sc' (i + 5) (by omega), sh_o_0, sh_o_82, hB, hM, pk_lawI wf_0, pk_lawI wf_I, pm_opt_some, if_true, true_and, eq_self, q10, q00, if_false, not_true_eq_false, not_false_eq_true]
theorem LC_warm (hg : g.length ≤ 599) (hi : i + 6 ≤ X.1) (hX : X.1 ≤ 3072) {w : Int32} (hw : w = if X.2.1 (i + 2) = 0 then 0 else 1) (hP : Pair X 8 116 [.int (X.2.1 (i + 1)), .int w] g I J) : ∃ g' I2 J2, Rel I2 J2 ∧ pm_grw g g' ∧ ∀ (d : Nat) (Q : pm_O → Prop), pm_V X (d + 50) 192 399 [some (.ref 1000000), some (.ref 0), some (.ref 82), some (.int (nI i))] [] (pm_S0 ++ g, I, J) Q = pm_V X (d + 50) 192 1291 [some (.ref 1000000), some (.ref 0), some (.ref 82), some (.int (nI i))] [] (pm_S0 ++ g', I2, J2) Q := by
  obtain ⟨v, g', I1, J1, I2, J2, hR, hgs, hv, hB, hM⟩ := hP
  obtain ⟨y, rfl⟩ := vk_int hv rfl
  have hl := gs_len hgs
  refine ⟨g', I2, J2, hR, hgs, fun d Q => ?_⟩
  have a1 : nI i + 1 = nI (i + 1) := nI_add i 1
  have a2 : nI i + 2 = nI (i + 2) := nI_add i 2
  have a3 : nI i + 3 = nI (i + 3) := nI_add i 3
  have a4 : nI i + 4 = nI (i + 4) := nI_add i 4
  have a5 : nI i + 5 = nI (i + 5) := nI_add i 5
  have sc := fun (q : Nat) (hq : q < i + 6) (I : Nat → Nat → Int32) => ia_sc (X := X) (I := I) (show g.length ≤ 600 by omega) (show q < X.1 by omega) (by omega)
  have sc' := fun (q : Nat) (hq : q < i + 6) (I : Nat → Nat → Int32) => ia_sc (X := X) (I := I) (show g'.length ≤ 600 by omega) (show q < X.1 by omega) (by omega)
  by_cases hz : X.2.1 (i + 2) = 0
  · rw [if_pos hz] at hw
    subst hw
    simp only [e_L_law_399, e_L_law_400, e_L_law_401, e_L_law_402, e_L_law_403, e_L_law_404, e_L_law_405, e_L_law_406, e_L_law_407, e_L_law_408, e_L_law_409, e_L_law_410, e_L_law_413, e_L_law_414, e_L_law_417, e_L_law_418, e_L_law_421, e_L_law_422, e_L_law_423, e_L_law_424, e_L_law_425, e_L_law_426, e_L_law_427, e_L_law_428, e_L_law_429, e_L_law_430, e_L_law_431, e_L_law_432, e_L_law_435, e_L_law_436, e_L_law_439, e_L_law_440, e_L_law_443, e_L_law_446, e_L_law_447, a1, a2, a3, a4, a5, sc (i + 1) (by omega), sc' (i + 1) (by omega), sc (i + 2) (by omega), sc' (i + 2) (by omega), sc (i + 3) (by omega), sc' (i + 3) (by omega), sc (i + 4) (by omega), sc' (i + 4) (by omega), sc (i + 5) (by omega), sc' (i + 5) (by omega), sh_o_0, sh_o_82, hB, hM, pk_lawI wf_0, pk_lawI wf_I, pm_opt_some, if_true, true_and, eq_self, hz, q10, q00, if_false, not_true_eq_false, not_false_eq_true]
  · rw [if_neg hz] at hw
    subst hw
    simp only [e_L_law_399, e_L_law_400, e_L_law_401, e_L_law_402, e_L_law_403, e_L_law_404, e_L_law_405, e_L_law_406, e_L_law_407, e_L_law_408, e_L_law_409, e_L_law_410, e_L_law_413, e_L_law_414, e_L_law_417, e_L_law_418, e_L_law_421, e_L_law_422, e_L_law_423, e_L_law_424, e_L_law_425, e_L_law_426, e_L_law_427, e_L_law_428, e_L_law_429, e_L_law_430, e_L_law_431, e_L_law_432, e_L_law_435, e_L_law_436, e_L_law_439, e_L_law_440, e_L_law_443, e_L_law_446, e_L_law_447, a1, a2, a3, a4, a5, sc (i + 1) (by omega), sc' (i + 1) (by omega), sc (i + 2) (by omega), sc' (i + 2) (by omega), sc (i + 3) (by omega), sc' (i + 3) (by omega), sc (i + 4) (by omega), sc' (i + 4) (by omega), sc (i + 5) (by omega), sc' (i + 5) (by omega), sh_o_0, sh_o_82, hB, hM, pk_lawI wf_0, pk_lawI wf_I, pm_opt_some, if_true, true_and, eq_self, hz, q10, q00, if_false, not_true_eq_false, not_false_eq_true]
theorem LC_place (hg : g.length ≤ 599) (hi : i + 6 ≤ X.1) (hX : X.1 ≤ 3072) (hP : Pair X 9 115 [.int (X.2.1 (i + 1)), .int (X.2.1 (i + 2)), .int (X.2.1 (i + 3))] g I J) : ∃ g' I2 J2, Rel I2 J2 ∧ pm_grw g g' ∧ ∀ (d : Nat) (Q : pm_O → Prop), pm_V X (d + 50) 192 448 [some (.ref 1000000), some (.ref 0), some (.ref 82), some (.int (nI i))] [] (pm_S0 ++ g, I, J) Q = pm_V X (d + 50) 192 1291 [some (.ref 1000000), some (.ref 0), some (.ref 82), some (.int (nI i))] [] (pm_S0 ++ g', I2, J2) Q := by
  obtain ⟨v, g', I1, J1, I2, J2, hR, hgs, hv, hB, hM⟩ := hP
  obtain ⟨y, rfl⟩ := vk_int hv rfl
  have hl := gs_len hgs
  refine ⟨g', I2, J2, hR, hgs, fun d Q => ?_⟩
  have a1 : nI i + 1 = nI (i + 1) := nI_add i 1
  have a2 : nI i + 2 = nI (i + 2) := nI_add i 2
  have a3 : nI i + 3 = nI (i + 3) := nI_add i 3
  have a4 : nI i + 4 = nI (i + 4) := nI_add i 4
  have a5 : nI i + 5 = nI (i + 5) := nI_add i 5
  have sc := fun (q : Nat) (hq : q < i + 6) (I : Nat → Nat → Int32) => ia_sc (X := X) (I := I) (show g.length ≤ 600 by omega) (show q < X.1 by omega) (by omega)
  have sc' := fun (q : Nat) (hq : q < i + 6) (I : Nat → Nat → Int32) => ia_sc (X := X) (I := I) (show g'.length ≤ 600 by omega) (show q < X.1 by omega) (by omega)
  simp only [e_L_law_448, e_L_law_449, e_L_law_450, e_L_law_451, e_L_law_452, e_L_law_453, e_L_law_454, e_L_law_455, e_L_law_456, e_L_law_457, e_L_law_458, e_L_law_459, e_L_law_460, e_L_law_461, e_L_law_462, e_L_law_463, e_L_law_464, e_L_law_467, e_L_law_468, e_L_law_469, e_L_law_470, e_L_law_471, e_L_law_472, e_L_law_473, e_L_law_474, e_L_law_475, e_L_law_476, e_L_law_477, e_L_law_478, e_L_law_479, e_L_law_480, e_L_law_481, e_L_law_482, e_L_law_483, e_L_law_486, e_L_law_489, e_L_law_490, a1, a2, a3, a4, a5, sc (i + 1) (by omega), sc' (i + 1) (by omega), sc (i + 2) (by omega), sc' (i + 2) (by omega), sc (i + 3) (by omega), sc' (i + 3) (by omega), sc (i + 4) (by omega), sc' (i + 4) (by omega), sc (i + 5) (by omega), sc' (i + 5) (by omega), sh_o_0, sh_o_82, hB, hM, pk_lawI wf_0, pk_lawI wf_I, pm_opt_some, if_true, true_and, eq_self, q10, q00, if_false, not_true_eq_false, not_false_eq_true]
theorem LC_cold (hg : g.length ≤ 599) (hi : i + 6 ≤ X.1) (hX : X.1 ≤ 3072) (hP : Pair X 10 141 [.int (X.2.1 (i + 1))] g I J) : ∃ g' I2 J2, Rel I2 J2 ∧ pm_grw g g' ∧ ∀ (d : Nat) (Q : pm_O → Prop), pm_V X (d + 50) 192 491 [some (.ref 1000000), some (.ref 0), some (.ref 82), some (.int (nI i))] [] (pm_S0 ++ g, I, J) Q = pm_V X (d + 50) 192 1291 [some (.ref 1000000), some (.ref 0), some (.ref 82), some (.int (nI i))] [] (pm_S0 ++ g', I2, J2) Q := by
  obtain ⟨v, g', I1, J1, I2, J2, hR, hgs, hv, hB, hM⟩ := hP
  obtain ⟨y, rfl⟩ := vk_int hv rfl
  have hl := gs_len hgs
  refine ⟨g', I2, J2, hR, hgs, fun d Q => ?_⟩
  have a1 : nI i + 1 = nI (i + 1) := nI_add i 1
  have a2 : nI i + 2 = nI (i + 2) := nI_add i 2
  have a3 : nI i + 3 = nI (i + 3) := nI_add i 3
  have a4 : nI i + 4 = nI (i + 4) := nI_add i 4
  have a5 : nI i + 5 = nI (i + 5) := nI_add i 5
  have sc := fun (q : Nat) (hq : q < i + 6) (I : Nat → Nat → Int32) => ia_sc (X := X) (I := I) (show g.length ≤ 600 by omega) (show q < X.1 by omega) (by omega)
  have sc' := fun (q : Nat) (hq : q < i + 6) (I : Nat → Nat → Int32) => ia_sc (X := X) (I := I) (show g'.length ≤ 600 by omega) (show q < X.1 by omega) (by omega)
  simp only [e_L_law_491, e_L_law_492, e_L_law_493, e_L_law_494, e_L_law_495, e_L_law_496, e_L_law_497, e_L_law_500, e_L_law_501, e_L_law_502, e_L_law_503, e_L_law_504, e_L_law_505, e_L_law_506, e_L_law_509, e_L_law_512, e_L_law_513, a1, a2, a3, a4, a5, sc (i + 1) (by omega), sc' (i + 1) (by omega), sc (i + 2) (by omega), sc' (i + 2) (by omega), sc (i + 3) (by omega), sc' (i + 3) (by omega), sc (i + 4) (by omega), sc' (i + 4) (by omega), sc (i + 5) (by omega), sc' (i + 5) (by omega), sh_o_0, sh_o_82, hB, hM, pk_lawI wf_0, pk_lawI wf_I, pm_opt_some, if_true, true_and, eq_self, q10, q00, if_false, not_true_eq_false, not_false_eq_true]
theorem LC_go (hg : g.length ≤ 599) (hi : i + 6 ≤ X.1) (hX : X.1 ≤ 3072) (hP : Pair X 11 153 [.int (X.2.1 (i + 1))] g I J) : ∃ g' I2 J2, Rel I2 J2 ∧ pm_grw g g' ∧ ∀ (d : Nat) (Q : pm_O → Prop), pm_V X (d + 50) 192 514 [some (.ref 1000000), some (.ref 0), some (.ref 82), some (.int (nI i))] [] (pm_S0 ++ g, I, J) Q = pm_V X (d + 50) 192 1291 [some (.ref 1000000), some (.ref 0), some (.ref 82), some (.int (nI i))] [] (pm_S0 ++ g', I2, J2) Q := by
  obtain ⟨v, g', I1, J1, I2, J2, hR, hgs, hv, hB, hM⟩ := hP
  obtain ⟨y, rfl⟩ := vk_int hv rfl
  have hl := gs_len hgs
  refine ⟨g', I2, J2, hR, hgs, fun d Q => ?_⟩
  have a1 : nI i + 1 = nI (i + 1) := nI_add i 1
  have a2 : nI i + 2 = nI (i + 2) := nI_add i 2
  have a3 : nI i + 3 = nI (i + 3) := nI_add i 3
  have a4 : nI i + 4 = nI (i + 4) := nI_add i 4
  have a5 : nI i + 5 = nI (i + 5) := nI_add i 5
  have sc := fun (q : Nat) (hq : q < i + 6) (I : Nat → Nat → Int32) => ia_sc (X := X) (I := I) (show g.length ≤ 600 by omega) (show q < X.1 by omega) (by omega)
  have sc' := fun (q : Nat) (hq : q < i + 6) (I : Nat → Nat → Int32) => ia_sc (X := X) (I := I) (show g'.length ≤ 600 by omega) (show q < X.1 by omega) (by omega)
  simp only [e_L_law_514, e_L_law_515, e_L_law_516, e_L_law_517, e_L_law_518, e_L_law_519, e_L_law_520, e_L_law_523, e_L_law_524, e_L_law_525, e_L_law_526, e_L_law_527, e_L_law_528, e_L_law_529, e_L_law_532, e_L_law_535, e_L_law_536, a1, a2, a3, a4, a5, sc (i + 1) (by omega), sc' (i + 1) (by omega), sc (i + 2) (by omega), sc' (i + 2) (by omega), sc (i + 3) (by omega), sc' (i + 3) (by omega), sc (i + 4) (by omega), sc' (i + 4) (by omega), sc (i + 5) (by omega), sc' (i + 5) (by omega), sh_o_0, sh_o_82, hB, hM, pk_lawI wf_0, pk_lawI wf_I, pm_opt_some, if_true, true_and, eq_self, q10, q00, if_false, not_true_eq_false, not_false_eq_true]
theorem LC_when (hg : g.length ≤ 599) (hi : i + 6 ≤ X.1) (hX : X.1 ≤ 3072) (hP : Pair X 12 155 [.int (X.2.1 (i + 1))] g I J) : ∃ g' I2 J2, Rel I2 J2 ∧ pm_grw g g' ∧ ∀ (d : Nat) (Q : pm_O → Prop), pm_V X (d + 50) 192 537 [some (.ref 1000000), some (.ref 0), some (.ref 82), some (.int (nI i))] [] (pm_S0 ++ g, I, J) Q = pm_V X (d + 50) 192 1291 [some (.ref 1000000), some (.ref 0), some (.ref 82), some (.int (nI i))] [] (pm_S0 ++ g', I2, J2) Q := by
  obtain ⟨v, g', I1, J1, I2, J2, hR, hgs, hv, hB, hM⟩ := hP
  obtain ⟨y, rfl⟩ := vk_int hv rfl
  have hl := gs_len hgs
  refine ⟨g', I2, J2, hR, hgs, fun d Q => ?_⟩
  have a1 : nI i + 1 = nI (i + 1) := nI_add i 1
  have a2 : nI i + 2 = nI (i + 2) := nI_add i 2
  have a3 : nI i + 3 = nI (i + 3) := nI_add i 3
  have a4 : nI i + 4 = nI (i + 4) := nI_add i 4
  have a5 : nI i + 5 = nI (i + 5) := nI_add i 5
  have sc := fun (q : Nat) (hq : q < i + 6) (I : Nat → Nat → Int32) => ia_sc (X := X) (I := I) (show g.length ≤ 600 by omega) (show q < X.1 by omega) (by omega)
  have sc' := fun (q : Nat) (hq : q < i + 6) (I : Nat → Nat → Int32) => ia_sc (X := X) (I := I) (show g'.length ≤ 600 by omega) (show q < X.1 by omega) (by omega)
  simp only [e_L_law_537, e_L_law_538, e_L_law_539, e_L_law_540, e_L_law_541, e_L_law_542, e_L_law_543, e_L_law_546, e_L_law_547, e_L_law_548, e_L_law_549, e_L_law_550, e_L_law_551, e_L_law_552, e_L_law_555, e_L_law_558, e_L_law_559, a1, a2, a3, a4, a5, sc (i + 1) (by omega), sc' (i + 1) (by omega), sc (i + 2) (by omega), sc' (i + 2) (by omega), sc (i + 3) (by omega), sc' (i + 3) (by omega), sc (i + 4) (by omega), sc' (i + 4) (by omega), sc (i + 5) (by omega), sc' (i + 5) (by omega), sh_o_0, sh_o_82, hB, hM, pk_lawI wf_0, pk_lawI wf_I, pm_opt_some, if_true, true_and, eq_self, q10, q00, if_false, not_true_eq_false, not_false_eq_true]
theorem LC_thin (hg : g.length ≤ 599) (hi : i + 6 ≤ X.1) (hX : X.1 ≤ 3072) (hP : Pair X 13 156 [.int (X.2.1 (i + 1)), .int (X.2.1 (i + 2))] g I J) : ∃ g' I2 J2, Rel I2 J2 ∧ pm_grw g g' ∧ ∀ (d : Nat) (Q : pm_O → Prop), pm_V X (d + 50) 192 560 [some (.ref 1000000), some (.ref 0), some (.ref 82), some (.int (nI i))] [] (pm_S0 ++ g, I, J) Q = pm_V X (d + 50) 192 1291 [some (.ref 1000000), some (.ref 0), some (.ref 82), some (.int (nI i))] [] (pm_S0 ++ g', I2, J2) Q := by
  obtain ⟨v, g', I1, J1, I2, J2, hR, hgs, hv, hB, hM⟩ := hP
  obtain ⟨y, rfl⟩ := vk_int hv rfl
  have hl := gs_len hgs
  refine ⟨g', I2, J2, hR, hgs, fun d Q => ?_⟩
  have a1 : nI i + 1 = nI (i + 1) := nI_add i 1
  have a2 : nI i + 2 = nI (i + 2) := nI_add i 2
  have a3 : nI i + 3 = nI (i + 3) := nI_add i 3
  have a4 : nI i + 4 = nI (i + 4) := nI_add i 4
  have a5 : nI i + 5 = nI (i + 5) := nI_add i 5
  have sc := fun (q : Nat) (hq : q < i + 6) (I : Nat → Nat → Int32) => ia_sc (X := X) (I := I) (show g.length ≤ 600 by omega) (show q < X.1 by omega) (by omega)
  have sc' := fun (q : Nat) (hq : q < i + 6) (I : Nat → Nat → Int32) => ia_sc (X := X) (I := I) (show g'.length ≤ 600 by omega) (show q < X.1 by omega) (by omega)
  simp only [e_L_law_560, e_L_law_561, e_L_law_562, e_L_law_563, e_L_law_564, e_L_law_565, e_L_law_566, e_L_law_567, e_L_law_568, e_L_law_569, e_L_law_570, e_L_law_571, e_L_law_574, e_L_law_575, e_L_law_576, e_L_law_577, e_L_law_578, e_L_law_579, e_L_law_580, e_L_law_581, e_L_law_582, e_L_law_583, e_L_law_584, e_L_law_585, e_L_law_588, e_L_law_591, e_L_law_592, a1, a2, a3, a4, a5, sc (i + 1) (by omega), sc' (i + 1) (by omega), sc (i + 2) (by omega), sc' (i + 2) (by omega), sc (i + 3) (by omega), sc' (i + 3) (by omega), sc (i + 4) (by omega), sc' (i + 4) (by omega), sc (i + 5) (by omega), sc' (i + 5) (by omega), sh_o_0, sh_o_82, hB, hM, pk_lawI wf_0, pk_lawI wf_I, pm_opt_some, if_true, true_and, eq_self, q10, q00, if_false, not_true_eq_false, not_false_eq_true]
theorem LC_reach (hg : g.length ≤ 599) (hi : i + 6 ≤ X.1) (hX : X.1 ≤ 3072) (hP : Pair X 14 157 [.int (X.2.1 (i + 1))] g I J) : ∃ g' I2 J2, Rel I2 J2 ∧ pm_grw g g' ∧ ∀ (d : Nat) (Q : pm_O → Prop), pm_V X (d + 50) 192 593 [some (.ref 1000000), some (.ref 0), some (.ref 82), some (.int (nI i))] [] (pm_S0 ++ g, I, J) Q = pm_V X (d + 50) 192 1291 [some (.ref 1000000), some (.ref 0), some (.ref 82), some (.int (nI i))] [] (pm_S0 ++ g', I2, J2) Q := by
  obtain ⟨v, g', I1, J1, I2, J2, hR, hgs, hv, hB, hM⟩ := hP
  obtain ⟨y, rfl⟩ := vk_int hv rfl
  have hl := gs_len hgs
  refine ⟨g', I2, J2, hR, hgs, fun d Q => ?_⟩
  have a1 : nI i + 1 = nI (i + 1) := nI_add i 1
  have a2 : nI i + 2 = nI (i + 2) := nI_add i 2
  have a3 : nI i + 3 = nI (i + 3) := nI_add i 3
  have a4 : nI i + 4 = nI (i + 4) := nI_add i 4
  have a5 : nI i + 5 = nI (i + 5) := nI_add i 5
  have sc := fun (q : Nat) (hq : q < i + 6) (I : Nat → Nat → Int32) => ia_sc (X := X) (I := I) (show g.length ≤ 600 by omega) (show q < X.1 by omega) (by omega)
  have sc' := fun (q : Nat) (hq : q < i + 6) (I : Nat → Nat → Int32) => ia_sc (X := X) (I := I) (show g'.length ≤ 600 by omega) (show q < X.1 by omega) (by omega)
  simp only [e_L_law_593, e_L_law_594, e_L_law_595, e_L_law_596, e_L_law_597, e_L_law_598, e_L_law_599, e_L_law_602, e_L_law_603, e_L_law_604, e_L_law_605, e_L_law_606, e_L_law_607, e_L_law_608, e_L_law_611, e_L_law_614, e_L_law_615, a1, a2, a3, a4, a5, sc (i + 1) (by omega), sc' (i + 1) (by omega), sc (i + 2) (by omega), sc' (i + 2) (by omega), sc (i + 3) (by omega), sc' (i + 3) (by omega), sc (i + 4) (by omega), sc' (i + 4) (by omega), sc (i + 5) (by omega), sc' (i + 5) (by omega), sh_o_0, sh_o_82, hB, hM, pk_lawI wf_0, pk_lawI wf_I, pm_opt_some, if_true, true_and, eq_self, q10, q00, if_false, not_true_eq_false, not_false_eq_true]
theorem LC_sweep (hg : g.length ≤ 599) (hi : i + 6 ≤ X.1) (hX : X.1 ≤ 3072) (hP : Pair X 15 158 [.int (X.2.1 (i + 1)), .int (X.2.1 (i + 2))] g I J) : ∃ g' I2 J2, Rel I2 J2 ∧ pm_grw g g' ∧ ∀ (d : Nat) (Q : pm_O → Prop), pm_V X (d + 50) 192 616 [some (.ref 1000000), some (.ref 0), some (.ref 82), some (.int (nI i))] [] (pm_S0 ++ g, I, J) Q = pm_V X (d + 50) 192 1291 [some (.ref 1000000), some (.ref 0), some (.ref 82), some (.int (nI i))] [] (pm_S0 ++ g', I2, J2) Q := by
  obtain ⟨v, g', I1, J1, I2, J2, hR, hgs, hv, hB, hM⟩ := hP
  obtain ⟨y, rfl⟩ := vk_int hv rfl
  have hl := gs_len hgs
  refine ⟨g', I2, J2, hR, hgs, fun d Q => ?_⟩
  have a1 : nI i + 1 = nI (i + 1) := nI_add i 1
  have a2 : nI i + 2 = nI (i + 2) := nI_add i 2
  have a3 : nI i + 3 = nI (i + 3) := nI_add i 3
  have a4 : nI i + 4 = nI (i + 4) := nI_add i 4
  have a5 : nI i + 5 = nI (i + 5) := nI_add i 5
  have sc := fun (q : Nat) (hq : q < i + 6) (I : Nat → Nat → Int32) => ia_sc (X := X) (I := I) (show g.length ≤ 600 by omega) (show q < X.1 by omega) (by omega)
  have sc' := fun (q : Nat) (hq : q < i + 6) (I : Nat → Nat → Int32) => ia_sc (X := X) (I := I) (show g'.length ≤ 600 by omega) (show q < X.1 by omega) (by omega)
  simp only [e_L_law_616, e_L_law_617, e_L_law_618, e_L_law_619, e_L_law_620, e_L_law_621, e_L_law_622, e_L_law_623, e_L_law_624, e_L_law_625, e_L_law_626, e_L_law_627, e_L_law_630, e_L_law_631, e_L_law_632, e_L_law_633, e_L_law_634, e_L_law_635, e_L_law_636, e_L_law_637, e_L_law_638, e_L_law_639, e_L_law_640, e_L_law_641, e_L_law_644, e_L_law_647, e_L_law_648, a1, a2, a3, a4, a5, sc (i + 1) (by omega), sc' (i + 1) (by omega), sc (i + 2) (by omega), sc' (i + 2) (by omega), sc (i + 3) (by omega), sc' (i + 3) (by omega), sc (i + 4) (by omega), sc' (i + 4) (by omega), sc (i + 5) (by omega), sc' (i + 5) (by omega), sh_o_0, sh_o_82, hB, hM, pk_lawI wf_0, pk_lawI wf_I, pm_opt_some, if_true, true_and, eq_self, q10, q00, if_false, not_true_eq_false, not_false_eq_true]
theorem LC_lamp (hg : g.length ≤ 599) (hi : i + 6 ≤ X.1) (hX : X.1 ≤ 3072) (hP : Pair X 16 159 [.int (X.2.1 (i + 1))] g I J) : ∃ g' I2 J2, Rel I2 J2 ∧ pm_grw g g' ∧ ∀ (d : Nat) (Q : pm_O → Prop), pm_V X (d + 50) 192 649 [some (.ref 1000000), some (.ref 0), some (.ref 82), some (.int (nI i))] [] (pm_S0 ++ g, I, J) Q = pm_V X (d + 50) 192 1291 [some (.ref 1000000), some (.ref 0), some (.ref 82), some (.int (nI i))] [] (pm_S0 ++ g', I2, J2) Q := by
  obtain ⟨v, g', I1, J1, I2, J2, hR, hgs, hv, hB, hM⟩ := hP
  obtain ⟨y, rfl⟩ := vk_int hv rfl
  have hl := gs_len hgs
  refine ⟨g', I2, J2, hR, hgs, fun d Q => ?_⟩
  have a1 : nI i + 1 = nI (i + 1) := nI_add i 1
  have a2 : nI i + 2 = nI (i + 2) := nI_add i 2
  have a3 : nI i + 3 = nI (i + 3) := nI_add i 3
  have a4 : nI i + 4 = nI (i + 4) := nI_add i 4
  have a5 : nI i + 5 = nI (i + 5) := nI_add i 5
  have sc := fun (q : Nat) (hq : q < i + 6) (I : Nat → Nat → Int32) => ia_sc (X := X) (I := I) (show g.length ≤ 600 by omega) (show q < X.1 by omega) (by omega)
  have sc' := fun (q : Nat) (hq : q < i + 6) (I : Nat → Nat → Int32) => ia_sc (X := X) (I := I) (show g'.length ≤ 600 by omega) (show q < X.1 by omega) (by omega)
  simp only [e_L_law_649, e_L_law_650, e_L_law_651, e_L_law_652, e_L_law_653, e_L_law_654, e_L_law_655, e_L_law_658, e_L_law_659, e_L_law_660, e_L_law_661, e_L_law_662, e_L_law_663, e_L_law_664, e_L_law_667, e_L_law_670, e_L_law_671, a1, a2, a3, a4, a5, sc (i + 1) (by omega), sc' (i + 1) (by omega), sc (i + 2) (by omega), sc' (i + 2) (by omega), sc (i + 3) (by omega), sc' (i + 3) (by omega), sc (i + 4) (by omega), sc' (i + 4) (by omega), sc (i + 5) (by omega), sc' (i + 5) (by omega), sh_o_0, sh_o_82, hB, hM, pk_lawI wf_0, pk_lawI wf_I, pm_opt_some, if_true, true_and, eq_self, q10, q00, if_false, not_true_eq_false, not_false_eq_true]
theorem LC_board (hg : g.length ≤ 599) (hi : i + 6 ≤ X.1) (hX : X.1 ≤ 3072) (hP : Pair X 17 160 [.int (X.2.1 (i + 1)), .int (X.2.1 (i + 2)), .int (X.2.1 (i + 3))] g I J) : ∃ g' I2 J2, Rel I2 J2 ∧ pm_grw g g' ∧ ∀ (d : Nat) (Q : pm_O → Prop), pm_V X (d + 50) 192 672 [some (.ref 1000000), some (.ref 0), some (.ref 82), some (.int (nI i))] [] (pm_S0 ++ g, I, J) Q = pm_V X (d + 50) 192 1291 [some (.ref 1000000), some (.ref 0), some (.ref 82), some (.int (nI i))] [] (pm_S0 ++ g', I2, J2) Q := by
  obtain ⟨v, g', I1, J1, I2, J2, hR, hgs, hv, hB, hM⟩ := hP
  obtain ⟨y, rfl⟩ := vk_int hv rfl
  have hl := gs_len hgs
  refine ⟨g', I2, J2, hR, hgs, fun d Q => ?_⟩
  have a1 : nI i + 1 = nI (i + 1) := nI_add i 1
  have a2 : nI i + 2 = nI (i + 2) := nI_add i 2
  have a3 : nI i + 3 = nI (i + 3) := nI_add i 3
  have a4 : nI i + 4 = nI (i + 4) := nI_add i 4
  have a5 : nI i + 5 = nI (i + 5) := nI_add i 5
  have sc := fun (q : Nat) (hq : q < i + 6) (I : Nat → Nat → Int32) => ia_sc (X := X) (I := I) (show g.length ≤ 600 by omega) (show q < X.1 by omega) (by omega)
  have sc' := fun (q : Nat) (hq : q < i + 6) (I : Nat → Nat → Int32) => ia_sc (X := X) (I := I) (show g'.length ≤ 600 by omega) (show q < X.1 by omega) (by omega)
  simp only [e_L_law_672, e_L_law_673, e_L_law_674, e_L_law_675, e_L_law_676, e_L_law_677, e_L_law_678, e_L_law_679, e_L_law_680, e_L_law_681, e_L_law_682, e_L_law_683, e_L_law_684, e_L_law_685, e_L_law_686, e_L_law_687, e_L_law_688, e_L_law_691, e_L_law_692, e_L_law_693, e_L_law_694, e_L_law_695, e_L_law_696, e_L_law_697, e_L_law_698, e_L_law_699, e_L_law_700, e_L_law_701, e_L_law_702, e_L_law_703, e_L_law_704, e_L_law_705, e_L_law_706, e_L_law_707, e_L_law_710, e_L_law_713, e_L_law_714, a1, a2, a3, a4, a5, sc (i + 1) (by omega), sc' (i + 1) (by omega), sc (i + 2) (by omega), sc' (i + 2) (by omega), sc (i + 3) (by omega), sc' (i + 3) (by omega), sc (i + 4) (by omega), sc' (i + 4) (by omega), sc (i + 5) (by omega), sc' (i + 5) (by omega), sh_o_0, sh_o_82, hB, hM, pk_lawI wf_0, pk_lawI wf_I, pm_opt_some, if_true, true_and, eq_self, q10, q00, if_false, not_true_eq_false, not_false_eq_true]
theorem LC_rope (hg : g.length ≤ 599) (hi : i + 6 ≤ X.1) (hX : X.1 ≤ 3072) (hP : Pair X 18 152 [] g I J) : ∃ g' I2 J2, Rel I2 J2 ∧ pm_grw g g' ∧ ∀ (d : Nat) (Q : pm_O → Prop), pm_V X (d + 50) 192 715 [some (.ref 1000000), some (.ref 0), some (.ref 82), some (.int (nI i))] [] (pm_S0 ++ g, I, J) Q = pm_V X (d + 50) 192 1291 [some (.ref 1000000), some (.ref 0), some (.ref 82), some (.int (nI i))] [] (pm_S0 ++ g', I2, J2) Q := by
  obtain ⟨v, g', I1, J1, I2, J2, hR, hgs, hv, hB, hM⟩ := hP
  obtain ⟨y, rfl⟩ := vk_int hv rfl
  have hl := gs_len hgs
  refine ⟨g', I2, J2, hR, hgs, fun d Q => ?_⟩
  have a1 : nI i + 1 = nI (i + 1) := nI_add i 1
  have a2 : nI i + 2 = nI (i + 2) := nI_add i 2
  have a3 : nI i + 3 = nI (i + 3) := nI_add i 3
  have a4 : nI i + 4 = nI (i + 4) := nI_add i 4
  have a5 : nI i + 5 = nI (i + 5) := nI_add i 5
  have sc := fun (q : Nat) (hq : q < i + 6) (I : Nat → Nat → Int32) => ia_sc (X := X) (I := I) (show g.length ≤ 600 by omega) (show q < X.1 by omega) (by omega)
  have sc' := fun (q : Nat) (hq : q < i + 6) (I : Nat → Nat → Int32) => ia_sc (X := X) (I := I) (show g'.length ≤ 600 by omega) (show q < X.1 by omega) (by omega)
  simp only [e_L_law_715, e_L_law_716, e_L_law_719, e_L_law_720, e_L_law_723, e_L_law_726, e_L_law_727, a1, a2, a3, a4, a5, sc (i + 1) (by omega), sc' (i + 1) (by omega), sc (i + 2) (by omega), sc' (i + 2) (by omega), sc (i + 3) (by omega), sc' (i + 3) (by omega), sc (i + 4) (by omega), sc' (i + 4) (by omega), sc (i + 5) (by omega), sc' (i + 5) (by omega), sh_o_0, sh_o_82, hB, hM, pk_lawI wf_0, pk_lawI wf_I, pm_opt_some, if_true, true_and, eq_self, q10, q00, if_false, not_true_eq_false, not_false_eq_true]
theorem LC_hole (hg : g.length ≤ 599) (hi : i + 6 ≤ X.1) (hX : X.1 ≤ 3072) (hP : Pair X 19 161 [.int (X.2.1 (i + 1)), .int (X.2.1 (i + 2)), .int (X.2.1 (i + 3))] g I J) : ∃ g' I2 J2, Rel I2 J2 ∧ pm_grw g g' ∧ ∀ (d : Nat) (Q : pm_O → Prop), pm_V X (d + 50) 192 728 [some (.ref 1000000), some (.ref 0), some (.ref 82), some (.int (nI i))] [] (pm_S0 ++ g, I, J) Q = pm_V X (d + 50) 192 1291 [some (.ref 1000000), some (.ref 0), some (.ref 82), some (.int (nI i))] [] (pm_S0 ++ g', I2, J2) Q := by
  obtain ⟨v, g', I1, J1, I2, J2, hR, hgs, hv, hB, hM⟩ := hP
  obtain ⟨y, rfl⟩ := vk_int hv rfl
  have hl := gs_len hgs
  refine ⟨g', I2, J2, hR, hgs, fun d Q => ?_⟩
  have a1 : nI i + 1 = nI (i + 1) := nI_add i 1
  have a2 : nI i + 2 = nI (i + 2) := nI_add i 2
  have a3 : nI i + 3 = nI (i + 3) := nI_add i 3
  have a4 : nI i + 4 = nI (i + 4) := nI_add i 4
  have a5 : nI i + 5 = nI (i + 5) := nI_add i 5
  have sc := fun (q : Nat) (hq : q < i + 6) (I : Nat → Nat → Int32) => ia_sc (X := X) (I := I) (show g.length ≤ 600 by omega) (show q < X.1 by omega) (by omega)
  have sc' := fun (q : Nat) (hq : q < i + 6) (I : Nat → Nat → Int32) => ia_sc (X := X) (I := I) (show g'.length ≤ 600 by omega) (show q < X.1 by omega) (by omega)
  simp only [e_L_law_728, e_L_law_729, e_L_law_730, e_L_law_731, e_L_law_732, e_L_law_733, e_L_law_734, e_L_law_735, e_L_law_736, e_L_law_737, e_L_law_738, e_L_law_739, e_L_law_740, e_L_law_741, e_L_law_742, e_L_law_743, e_L_law_744, e_L_law_747, e_L_law_748, e_L_law_749, e_L_law_750, e_L_law_751, e_L_law_752, e_L_law_753, e_L_law_754, e_L_law_755, e_L_law_756, e_L_law_757, e_L_law_758, e_L_law_759, e_L_law_760, e_L_law_761, e_L_law_762, e_L_law_763, e_L_law_766, e_L_law_769, e_L_law_770, a1, a2, a3, a4, a5, sc (i + 1) (by omega), sc' (i + 1) (by omega), sc (i + 2) (by omega), sc' (i + 2) (by omega), sc (i + 3) (by omega), sc' (i + 3) (by omega), sc (i + 4) (by omega), sc' (i + 4) (by omega), sc (i + 5) (by omega), sc' (i + 5) (by omega), sh_o_0, sh_o_82, hB, hM, pk_lawI wf_0, pk_lawI wf_I, pm_opt_some, if_true, true_and, eq_self, q10, q00, if_false, not_true_eq_false, not_false_eq_true]
theorem LC_off (hg : g.length ≤ 599) (hi : i + 6 ≤ X.1) (hX : X.1 ≤ 3072) (hP : Pair X 20 164 [.int (X.2.1 (i + 1))] g I J) : ∃ g' I2 J2, Rel I2 J2 ∧ pm_grw g g' ∧ ∀ (d : Nat) (Q : pm_O → Prop), pm_V X (d + 50) 192 771 [some (.ref 1000000), some (.ref 0), some (.ref 82), some (.int (nI i))] [] (pm_S0 ++ g, I, J) Q = pm_V X (d + 50) 192 1291 [some (.ref 1000000), some (.ref 0), some (.ref 82), some (.int (nI i))] [] (pm_S0 ++ g', I2, J2) Q := by
  obtain ⟨v, g', I1, J1, I2, J2, hR, hgs, hv, hB, hM⟩ := hP
  obtain ⟨y, rfl⟩ := vk_int hv rfl
  have hl := gs_len hgs
  refine ⟨g', I2, J2, hR, hgs, fun d Q => ?_⟩
  have a1 : nI i + 1 = nI (i + 1) := nI_add i 1
  have a2 : nI i + 2 = nI (i + 2) := nI_add i 2
  have a3 : nI i + 3 = nI (i + 3) := nI_add i 3
  have a4 : nI i + 4 = nI (i + 4) := nI_add i 4
  have a5 : nI i + 5 = nI (i + 5) := nI_add i 5
  have sc := fun (q : Nat) (hq : q < i + 6) (I : Nat → Nat → Int32) => ia_sc (X := X) (I := I) (show g.length ≤ 600 by omega) (show q < X.1 by omega) (by omega)
  have sc' := fun (q : Nat) (hq : q < i + 6) (I : Nat → Nat → Int32) => ia_sc (X := X) (I := I) (show g'.length ≤ 600 by omega) (show q < X.1 by omega) (by omega)
  simp only [e_L_law_771, e_L_law_772, e_L_law_773, e_L_law_774, e_L_law_775, e_L_law_776, e_L_law_777, e_L_law_780, e_L_law_781, e_L_law_782, e_L_law_783, e_L_law_784, e_L_law_785, e_L_law_786, e_L_law_789, e_L_law_792, e_L_law_793, a1, a2, a3, a4, a5, sc (i + 1) (by omega), sc' (i + 1) (by omega), sc (i + 2) (by omega), sc' (i + 2) (by omega), sc (i + 3) (by omega), sc' (i + 3) (by omega), sc (i + 4) (by omega), sc' (i + 4) (by omega), sc (i + 5) (by omega), sc' (i + 5) (by omega), sh_o_0, sh_o_82, hB, hM, pk_lawI wf_0, pk_lawI wf_I, pm_opt_some, if_true, true_and, eq_self, q10, q00, if_false, not_true_eq_false, not_false_eq_true]
theorem LC_likely (hg : g.length ≤ 599) (hi : i + 6 ≤ X.1) (hX : X.1 ≤ 3072) (hP : Pair X 21 165 [] g I J) : ∃ g' I2 J2, Rel I2 J2 ∧ pm_grw g g' ∧ ∀ (d : Nat) (Q : pm_O → Prop), pm_V X (d + 50) 192 794 [some (.ref 1000000), some (.ref 0), some (.ref 82), some (.int (nI i))] [] (pm_S0 ++ g, I, J) Q = pm_V X (d + 50) 192 1291 [some (.ref 1000000), some (.ref 0), some (.ref 82), some (.int (nI i))] [] (pm_S0 ++ g', I2, J2) Q := by
  obtain ⟨v, g', I1, J1, I2, J2, hR, hgs, hv, hB, hM⟩ := hP
  obtain ⟨y, rfl⟩ := vk_int hv rfl
  have hl := gs_len hgs
  refine ⟨g', I2, J2, hR, hgs, fun d Q => ?_⟩
  have a1 : nI i + 1 = nI (i + 1) := nI_add i 1
  have a2 : nI i + 2 = nI (i + 2) := nI_add i 2
  have a3 : nI i + 3 = nI (i + 3) := nI_add i 3
  have a4 : nI i + 4 = nI (i + 4) := nI_add i 4
  have a5 : nI i + 5 = nI (i + 5) := nI_add i 5
  have sc := fun (q : Nat) (hq : q < i + 6) (I : Nat → Nat → Int32) => ia_sc (X := X) (I := I) (show g.length ≤ 600 by omega) (show q < X.1 by omega) (by omega)
  have sc' := fun (q : Nat) (hq : q < i + 6) (I : Nat → Nat → Int32) => ia_sc (X := X) (I := I) (show g'.length ≤ 600 by omega) (show q < X.1 by omega) (by omega)
  simp only [e_L_law_794, e_L_law_795, e_L_law_798, e_L_law_799, e_L_law_802, e_L_law_805, e_L_law_806, a1, a2, a3, a4, a5, sc (i + 1) (by omega), sc' (i + 1) (by omega), sc (i + 2) (by omega), sc' (i + 2) (by omega), sc (i + 3) (by omega), sc' (i + 3) (by omega), sc (i + 4) (by omega), sc' (i + 4) (by omega), sc (i + 5) (by omega), sc' (i + 5) (by omega), sh_o_0, sh_o_82, hB, hM, pk_lawI wf_0, pk_lawI wf_I, pm_opt_some, if_true, true_and, eq_self, q10, q00, if_false, not_true_eq_false, not_false_eq_true]
theorem LC_blows (hg : g.length ≤ 599) (hi : i + 6 ≤ X.1) (hX : X.1 ≤ 3072) (hP : Pair X 22 166 [.int (X.2.1 (i + 1))] g I J) : ∃ g' I2 J2, Rel I2 J2 ∧ pm_grw g g' ∧ ∀ (d : Nat) (Q : pm_O → Prop), pm_V X (d + 50) 192 807 [some (.ref 1000000), some (.ref 0), some (.ref 82), some (.int (nI i))] [] (pm_S0 ++ g, I, J) Q = pm_V X (d + 50) 192 1291 [some (.ref 1000000), some (.ref 0), some (.ref 82), some (.int (nI i))] [] (pm_S0 ++ g', I2, J2) Q := by
  obtain ⟨v, g', I1, J1, I2, J2, hR, hgs, hv, hB, hM⟩ := hP
  obtain ⟨y, rfl⟩ := vk_int hv rfl
  have hl := gs_len hgs
  refine ⟨g', I2, J2, hR, hgs, fun d Q => ?_⟩
  have a1 : nI i + 1 = nI (i + 1) := nI_add i 1
  have a2 : nI i + 2 = nI (i + 2) := nI_add i 2
  have a3 : nI i + 3 = nI (i + 3) := nI_add i 3
  have a4 : nI i + 4 = nI (i + 4) := nI_add i 4
  have a5 : nI i + 5 = nI (i + 5) := nI_add i 5
  have sc := fun (q : Nat) (hq : q < i + 6) (I : Nat → Nat → Int32) => ia_sc (X := X) (I := I) (show g.length ≤ 600 by omega) (show q < X.1 by omega) (by omega)
  have sc' := fun (q : Nat) (hq : q < i + 6) (I : Nat → Nat → Int32) => ia_sc (X := X) (I := I) (show g'.length ≤ 600 by omega) (show q < X.1 by omega) (by omega)
  simp only [e_L_law_807, e_L_law_808, e_L_law_809, e_L_law_810, e_L_law_811, e_L_law_812, e_L_law_813, e_L_law_816, e_L_law_817, e_L_law_818, e_L_law_819, e_L_law_820, e_L_law_821, e_L_law_822, e_L_law_825, e_L_law_828, e_L_law_829, a1, a2, a3, a4, a5, sc (i + 1) (by omega), sc' (i + 1) (by omega), sc (i + 2) (by omega), sc' (i + 2) (by omega), sc (i + 3) (by omega), sc' (i + 3) (by omega), sc (i + 4) (by omega), sc' (i + 4) (by omega), sc (i + 5) (by omega), sc' (i + 5) (by omega), sh_o_0, sh_o_82, hB, hM, pk_lawI wf_0, pk_lawI wf_I, pm_opt_some, if_true, true_and, eq_self, q10, q00, if_false, not_true_eq_false, not_false_eq_true]
theorem LC_odds (hg : g.length ≤ 599) (hi : i + 6 ≤ X.1) (hX : X.1 ≤ 3072) (hP : Pair X 23 167 [.int (X.2.1 (i + 1)), .int (X.2.1 (i + 2))] g I J) : ∃ g' I2 J2, Rel I2 J2 ∧ pm_grw g g' ∧ ∀ (d : Nat) (Q : pm_O → Prop), pm_V X (d + 50) 192 830 [some (.ref 1000000), some (.ref 0), some (.ref 82), some (.int (nI i))] [] (pm_S0 ++ g, I, J) Q = pm_V X (d + 50) 192 1291 [some (.ref 1000000), some (.ref 0), some (.ref 82), some (.int (nI i))] [] (pm_S0 ++ g', I2, J2) Q := by
  obtain ⟨v, g', I1, J1, I2, J2, hR, hgs, hv, hB, hM⟩ := hP
  obtain ⟨y, rfl⟩ := vk_int hv rfl
  have hl := gs_len hgs
  refine ⟨g', I2, J2, hR, hgs, fun d Q => ?_⟩
  have a1 : nI i + 1 = nI (i + 1) := nI_add i 1
  have a2 : nI i + 2 = nI (i + 2) := nI_add i 2
  have a3 : nI i + 3 = nI (i + 3) := nI_add i 3
  have a4 : nI i + 4 = nI (i + 4) := nI_add i 4
  have a5 : nI i + 5 = nI (i + 5) := nI_add i 5
  have sc := fun (q : Nat) (hq : q < i + 6) (I : Nat → Nat → Int32) => ia_sc (X := X) (I := I) (show g.length ≤ 600 by omega) (show q < X.1 by omega) (by omega)
  have sc' := fun (q : Nat) (hq : q < i + 6) (I : Nat → Nat → Int32) => ia_sc (X := X) (I := I) (show g'.length ≤ 600 by omega) (show q < X.1 by omega) (by omega)
  simp only [e_L_law_830, e_L_law_831, e_L_law_832, e_L_law_833, e_L_law_834, e_L_law_835, e_L_law_836, e_L_law_837, e_L_law_838, e_L_law_839, e_L_law_840, e_L_law_841, e_L_law_844, e_L_law_845, e_L_law_846, e_L_law_847, e_L_law_848, e_L_law_849, e_L_law_850, e_L_law_851, e_L_law_852, e_L_law_853, e_L_law_854, e_L_law_855, e_L_law_858, e_L_law_861, e_L_law_862, a1, a2, a3, a4, a5, sc (i + 1) (by omega), sc' (i + 1) (by omega), sc (i + 2) (by omega), sc' (i + 2) (by omega), sc (i + 3) (by omega), sc' (i + 3) (by omega), sc (i + 4) (by omega), sc' (i + 4) (by omega), sc (i + 5) (by omega), sc' (i + 5) (by omega), sh_o_0, sh_o_82, hB, hM, pk_lawI wf_0, pk_lawI wf_I, pm_opt_some, if_true, true_and, eq_self, q10, q00, if_false, not_true_eq_false, not_false_eq_true]
theorem LC_sure (hg : g.length ≤ 599) (hi : i + 6 ≤ X.1) (hX : X.1 ≤ 3072) (hP : Pair X 24 169 [.int (X.2.1 (i + 1)), .int (X.2.1 (i + 2))] g I J) : ∃ g' I2 J2, Rel I2 J2 ∧ pm_grw g g' ∧ ∀ (d : Nat) (Q : pm_O → Prop), pm_V X (d + 50) 192 863 [some (.ref 1000000), some (.ref 0), some (.ref 82), some (.int (nI i))] [] (pm_S0 ++ g, I, J) Q = pm_V X (d + 50) 192 1291 [some (.ref 1000000), some (.ref 0), some (.ref 82), some (.int (nI i))] [] (pm_S0 ++ g', I2, J2) Q := by
  obtain ⟨v, g', I1, J1, I2, J2, hR, hgs, hv, hB, hM⟩ := hP
  obtain ⟨y, rfl⟩ := vk_long hv rfl
  have hl := gs_len hgs
  refine ⟨g', I2, J2, hR, hgs, fun d Q => ?_⟩
  have a1 : nI i + 1 = nI (i + 1) := nI_add i 1
  have a2 : nI i + 2 = nI (i + 2) := nI_add i 2
  have a3 : nI i + 3 = nI (i + 3) := nI_add i 3
  have a4 : nI i + 4 = nI (i + 4) := nI_add i 4
  have a5 : nI i + 5 = nI (i + 5) := nI_add i 5
  have sc := fun (q : Nat) (hq : q < i + 6) (I : Nat → Nat → Int32) => ia_sc (X := X) (I := I) (show g.length ≤ 600 by omega) (show q < X.1 by omega) (by omega)
  have sc' := fun (q : Nat) (hq : q < i + 6) (I : Nat → Nat → Int32) => ia_sc (X := X) (I := I) (show g'.length ≤ 600 by omega) (show q < X.1 by omega) (by omega)
  simp only [e_L_law_863, e_L_law_864, e_L_law_865, e_L_law_866, e_L_law_867, e_L_law_868, e_L_law_869, e_L_law_870, e_L_law_871, e_L_law_872, e_L_law_873, e_L_law_874, e_L_law_877, e_L_law_878, e_L_law_879, e_L_law_880, e_L_law_881, e_L_law_882, e_L_law_883, e_L_law_884, e_L_law_885, e_L_law_886, e_L_law_887, e_L_law_888, e_L_law_891, e_L_law_892, e_L_law_895, e_L_law_896, a1, a2, a3, a4, a5, sc (i + 1) (by omega), sc' (i + 1) (by omega), sc (i + 2) (by omega), sc' (i + 2) (by omega), sc (i + 3) (by omega), sc' (i + 3) (by omega), sc (i + 4) (by omega), sc' (i + 4) (by omega), sc (i + 5) (by omega), sc' (i + 5) (by omega), sh_o_0, sh_o_82, hB, hM, pk_lawL wf_0, pk_lawL wf_L, pm_opt_some, if_true, true_and, eq_self, q10, q00, if_false, not_true_eq_false, not_false_eq_true, lg_self]
theorem LC_judge (hg : g.length ≤ 599) (hi : i + 6 ≤ X.1) (hX : X.1 ≤ 3072) (hP : Pair X 25 170 [.int (X.2.1 (i + 1)), .int (X.2.1 (i + 2))] g I J) : ∃ g' I2 J2, Rel I2 J2 ∧ pm_grw g g' ∧ ∀ (d : Nat) (Q : pm_O → Prop), pm_V X (d + 50) 192 897 [some (.ref 1000000), some (.ref 0), some (.ref 82), some (.int (nI i))] [] (pm_S0 ++ g, I, J) Q = pm_V X (d + 50) 192 1291 [some (.ref 1000000), some (.ref 0), some (.ref 82), some (.int (nI i))] [] (pm_S0 ++ g', I2, J2) Q := by
  obtain ⟨v, g', I1, J1, I2, J2, hR, hgs, hv, hB, hM⟩ := hP
  obtain ⟨y, rfl⟩ := vk_int hv rfl
  have hl := gs_len hgs
  refine ⟨g', I2, J2, hR, hgs, fun d Q => ?_⟩
  have a1 : nI i + 1 = nI (i + 1) := nI_add i 1
  have a2 : nI i + 2 = nI (i + 2) := nI_add i 2
  have a3 : nI i + 3 = nI (i + 3) := nI_add i 3
  have a4 : nI i + 4 = nI (i + 4) := nI_add i 4
  have a5 : nI i + 5 = nI (i + 5) := nI_add i 5
  have sc := fun (q : Nat) (hq : q < i + 6) (I : Nat → Nat → Int32) => ia_sc (X := X) (I := I) (show g.length ≤ 600 by omega) (show q < X.1 by omega) (by omega)
  have sc' := fun (q : Nat) (hq : q < i + 6) (I : Nat → Nat → Int32) => ia_sc (X := X) (I := I) (show g'.length ≤ 600 by omega) (show q < X.1 by omega) (by omega)
  simp only [e_L_law_897, e_L_law_898, e_L_law_899, e_L_law_900, e_L_law_901, e_L_law_902, e_L_law_903, e_L_law_904, e_L_law_905, e_L_law_906, e_L_law_907, e_L_law_908, e_L_law_911, e_L_law_912, e_L_law_913, e_L_law_914, e_L_law_915, e_L_law_916, e_L_law_917, e_L_law_918, e_L_law_919, e_L_law_920, e_L_law_921, e_L_law_922, e_L_law_925, e_L_law_928, e_L_law_929, a1, a2, a3, a4, a5, sc (i + 1) (by omega), sc' (i + 1) (by omega), sc (i + 2) (by omega), sc' (i + 2) (by omega), sc (i + 3) (by omega), sc' (i + 3) (by omega), sc (i + 4) (by omega), sc' (i + 4) (by omega), sc (i + 5) (by omega), sc' (i + 5) (by omega), sh_o_0, sh_o_82, hB, hM, pk_lawI wf_0, pk_lawI wf_I, pm_opt_some, if_true, true_and, eq_self, q10, q00, if_false, not_true_eq_false, not_false_eq_true]
theorem LC_image (hg : g.length ≤ 599) (hi : i + 6 ≤ X.1) (hX : X.1 ≤ 3072) (hP : Pair X 26 172 [] g I J) : ∃ g' I2 J2, Rel I2 J2 ∧ pm_grw g g' ∧ ∀ (d : Nat) (Q : pm_O → Prop), pm_V X (d + 50) 192 930 [some (.ref 1000000), some (.ref 0), some (.ref 82), some (.int (nI i))] [] (pm_S0 ++ g, I, J) Q = pm_V X (d + 50) 192 1291 [some (.ref 1000000), some (.ref 0), some (.ref 82), some (.int (nI i))] [] (pm_S0 ++ g', I2, J2) Q := by
  obtain ⟨v, g', I1, J1, I2, J2, hR, hgs, hv, hB, hM⟩ := hP
  obtain ⟨y, rfl⟩ := vk_int hv rfl
  have hl := gs_len hgs
  refine ⟨g', I2, J2, hR, hgs, fun d Q => ?_⟩
  have a1 : nI i + 1 = nI (i + 1) := nI_add i 1
  have a2 : nI i + 2 = nI (i + 2) := nI_add i 2
  have a3 : nI i + 3 = nI (i + 3) := nI_add i 3
  have a4 : nI i + 4 = nI (i + 4) := nI_add i 4
  have a5 : nI i + 5 = nI (i + 5) := nI_add i 5
  have sc := fun (q : Nat) (hq : q < i + 6) (I : Nat → Nat → Int32) => ia_sc (X := X) (I := I) (show g.length ≤ 600 by omega) (show q < X.1 by omega) (by omega)
  have sc' := fun (q : Nat) (hq : q < i + 6) (I : Nat → Nat → Int32) => ia_sc (X := X) (I := I) (show g'.length ≤ 600 by omega) (show q < X.1 by omega) (by omega)
  simp only [e_L_law_930, e_L_law_931, e_L_law_934, e_L_law_935, e_L_law_938, e_L_law_941, e_L_law_942, a1, a2, a3, a4, a5, sc (i + 1) (by omega), sc' (i + 1) (by omega), sc (i + 2) (by omega), sc' (i + 2) (by omega), sc (i + 3) (by omega), sc' (i + 3) (by omega), sc (i + 4) (by omega), sc' (i + 4) (by omega), sc (i + 5) (by omega), sc' (i + 5) (by omega), sh_o_0, sh_o_82, hB, hM, pk_lawI wf_0, pk_lawI wf_I, pm_opt_some, if_true, true_and, eq_self, q10, q00, if_false, not_true_eq_false, not_false_eq_true]
theorem LC_undo (hg : g.length ≤ 599) (hi : i + 6 ≤ X.1) (hX : X.1 ≤ 3072) (hP : Pair X 27 173 [] g I J) : ∃ g' I2 J2, Rel I2 J2 ∧ pm_grw g g' ∧ ∀ (d : Nat) (Q : pm_O → Prop), pm_V X (d + 50) 192 943 [some (.ref 1000000), some (.ref 0), some (.ref 82), some (.int (nI i))] [] (pm_S0 ++ g, I, J) Q = pm_V X (d + 50) 192 1291 [some (.ref 1000000), some (.ref 0), some (.ref 82), some (.int (nI i))] [] (pm_S0 ++ g', I2, J2) Q := by
  obtain ⟨v, g', I1, J1, I2, J2, hR, hgs, hv, hB, hM⟩ := hP
  obtain ⟨y, rfl⟩ := vk_int hv rfl
  have hl := gs_len hgs
  refine ⟨g', I2, J2, hR, hgs, fun d Q => ?_⟩
  have a1 : nI i + 1 = nI (i + 1) := nI_add i 1
  have a2 : nI i + 2 = nI (i + 2) := nI_add i 2
  have a3 : nI i + 3 = nI (i + 3) := nI_add i 3
  have a4 : nI i + 4 = nI (i + 4) := nI_add i 4
  have a5 : nI i + 5 = nI (i + 5) := nI_add i 5
  have sc := fun (q : Nat) (hq : q < i + 6) (I : Nat → Nat → Int32) => ia_sc (X := X) (I := I) (show g.length ≤ 600 by omega) (show q < X.1 by omega) (by omega)
  have sc' := fun (q : Nat) (hq : q < i + 6) (I : Nat → Nat → Int32) => ia_sc (X := X) (I := I) (show g'.length ≤ 600 by omega) (show q < X.1 by omega) (by omega)
  simp only [e_L_law_943, e_L_law_944, e_L_law_947, e_L_law_948, e_L_law_951, e_L_law_954, e_L_law_955, a1, a2, a3, a4, a5, sc (i + 1) (by omega), sc' (i + 1) (by omega), sc (i + 2) (by omega), sc' (i + 2) (by omega), sc (i + 3) (by omega), sc' (i + 3) (by omega), sc (i + 4) (by omega), sc' (i + 4) (by omega), sc (i + 5) (by omega), sc' (i + 5) (by omega), sh_o_0, sh_o_82, hB, hM, pk_lawI wf_0, pk_lawI wf_I, pm_opt_some, if_true, true_and, eq_self, q10, q00, if_false, not_true_eq_false, not_false_eq_true]
theorem LC_act (hg : g.length ≤ 599) (hi : i + 6 ≤ X.1) (hX : X.1 ≤ 3072) (hP : Pair X 28 182 [.int (X.2.1 (i + 1)), .int (X.2.1 (i + 2)), .int (X.2.1 (i + 3))] g I J) : ∃ g' I2 J2, Rel I2 J2 ∧ pm_grw g g' ∧ ∀ (d : Nat) (Q : pm_O → Prop), pm_V X (d + 50) 192 956 [some (.ref 1000000), some (.ref 0), some (.ref 82), some (.int (nI i))] [] (pm_S0 ++ g, I, J) Q = pm_V X (d + 50) 192 1291 [some (.ref 1000000), some (.ref 0), some (.ref 82), some (.int (nI i))] [] (pm_S0 ++ g', I2, J2) Q := by
  obtain ⟨v, g', I1, J1, I2, J2, hR, hgs, hv, hB, hM⟩ := hP
  obtain ⟨y, rfl⟩ := vk_int hv rfl
  have hl := gs_len hgs
  refine ⟨g', I2, J2, hR, hgs, fun d Q => ?_⟩
  have a1 : nI i + 1 = nI (i + 1) := nI_add i 1
  have a2 : nI i + 2 = nI (i + 2) := nI_add i 2
  have a3 : nI i + 3 = nI (i + 3) := nI_add i 3
  have a4 : nI i + 4 = nI (i + 4) := nI_add i 4
  have a5 : nI i + 5 = nI (i + 5) := nI_add i 5
  have sc := fun (q : Nat) (hq : q < i + 6) (I : Nat → Nat → Int32) => ia_sc (X := X) (I := I) (show g.length ≤ 600 by omega) (show q < X.1 by omega) (by omega)
  have sc' := fun (q : Nat) (hq : q < i + 6) (I : Nat → Nat → Int32) => ia_sc (X := X) (I := I) (show g'.length ≤ 600 by omega) (show q < X.1 by omega) (by omega)
  simp only [e_L_law_956, e_L_law_957, e_L_law_958, e_L_law_959, e_L_law_960, e_L_law_961, e_L_law_962, e_L_law_963, e_L_law_964, e_L_law_965, e_L_law_966, e_L_law_967, e_L_law_968, e_L_law_969, e_L_law_970, e_L_law_971, e_L_law_972, e_L_law_975, e_L_law_976, e_L_law_977, e_L_law_978, e_L_law_979, e_L_law_980, e_L_law_981, e_L_law_982, e_L_law_983, e_L_law_984, e_L_law_985, e_L_law_986, e_L_law_987, e_L_law_988, e_L_law_989, e_L_law_990, e_L_law_991, e_L_law_994, e_L_law_997, e_L_law_998, a1, a2, a3, a4, a5, sc (i + 1) (by omega), sc' (i + 1) (by omega), sc (i + 2) (by omega), sc' (i + 2) (by omega), sc (i + 3) (by omega), sc' (i + 3) (by omega), sc (i + 4) (by omega), sc' (i + 4) (by omega), sc (i + 5) (by omega), sc' (i + 5) (by omega), sh_o_0, sh_o_82, hB, hM, pk_lawI wf_0, pk_lawI wf_I, pm_opt_some, if_true, true_and, eq_self, q10, q00, if_false, not_true_eq_false, not_false_eq_true]
theorem LC_trace (hg : g.length ≤ 599) (hi : i + 6 ≤ X.1) (hX : X.1 ≤ 3072) (hP : Pair X 29 183 [.int (X.2.1 (i + 1))] g I J) : ∃ g' I2 J2, Rel I2 J2 ∧ pm_grw g g' ∧ ∀ (d : Nat) (Q : pm_O → Prop), pm_V X (d + 50) 192 999 [some (.ref 1000000), some (.ref 0), some (.ref 82), some (.int (nI i))] [] (pm_S0 ++ g, I, J) Q = pm_V X (d + 50) 192 1291 [some (.ref 1000000), some (.ref 0), some (.ref 82), some (.int (nI i))] [] (pm_S0 ++ g', I2, J2) Q := by
  obtain ⟨v, g', I1, J1, I2, J2, hR, hgs, hv, hB, hM⟩ := hP
  obtain ⟨y, rfl⟩ := vk_int hv rfl
  have hl := gs_len hgs
  refine ⟨g', I2, J2, hR, hgs, fun d Q => ?_⟩
  have a1 : nI i + 1 = nI (i + 1) := nI_add i 1
  have a2 : nI i + 2 = nI (i + 2) := nI_add i 2
  have a3 : nI i + 3 = nI (i + 3) := nI_add i 3
  have a4 : nI i + 4 = nI (i + 4) := nI_add i 4
  have a5 : nI i + 5 = nI (i + 5) := nI_add i 5
  have sc := fun (q : Nat) (hq : q < i + 6) (I : Nat → Nat → Int32) => ia_sc (X := X) (I := I) (show g.length ≤ 600 by omega) (show q < X.1 by omega) (by omega)
  have sc' := fun (q : Nat) (hq : q < i + 6) (I : Nat → Nat → Int32) => ia_sc (X := X) (I := I) (show g'.length ≤ 600 by omega) (show q < X.1 by omega) (by omega)
  simp only [e_L_law_999, e_L_law_1000, e_L_law_1001, e_L_law_1002, e_L_law_1003, e_L_law_1004, e_L_law_1005, e_L_law_1008, e_L_law_1009, e_L_law_1010, e_L_law_1011, e_L_law_1012, e_L_law_1013, e_L_law_1014, e_L_law_1017, e_L_law_1020, e_L_law_1021, a1, a2, a3, a4, a5, sc (i + 1) (by omega), sc' (i + 1) (by omega), sc (i + 2) (by omega), sc' (i + 2) (by omega), sc (i + 3) (by omega), sc' (i + 3) (by omega), sc (i + 4) (by omega), sc' (i + 4) (by omega), sc (i + 5) (by omega), sc' (i + 5) (by omega), sh_o_0, sh_o_82, hB, hM, pk_lawI wf_0, pk_lawI wf_I, pm_opt_some, if_true, true_and, eq_self, q10, q00, if_false, not_true_eq_false, not_false_eq_true]
theorem LC_taken (hg : g.length ≤ 599) (hi : i + 6 ≤ X.1) (hX : X.1 ≤ 3072) (hP : Pair X 30 184 [.int (X.2.1 (i + 1)), .int (X.2.1 (i + 2))] g I J) : ∃ g' I2 J2, Rel I2 J2 ∧ pm_grw g g' ∧ ∀ (d : Nat) (Q : pm_O → Prop), pm_V X (d + 50) 192 1022 [some (.ref 1000000), some (.ref 0), some (.ref 82), some (.int (nI i))] [] (pm_S0 ++ g, I, J) Q = pm_V X (d + 50) 192 1291 [some (.ref 1000000), some (.ref 0), some (.ref 82), some (.int (nI i))] [] (pm_S0 ++ g', I2, J2) Q := by
  obtain ⟨v, g', I1, J1, I2, J2, hR, hgs, hv, hB, hM⟩ := hP
  obtain ⟨y, rfl⟩ := vk_int hv rfl
  have hl := gs_len hgs
  refine ⟨g', I2, J2, hR, hgs, fun d Q => ?_⟩
  have a1 : nI i + 1 = nI (i + 1) := nI_add i 1
  have a2 : nI i + 2 = nI (i + 2) := nI_add i 2
  have a3 : nI i + 3 = nI (i + 3) := nI_add i 3
  have a4 : nI i + 4 = nI (i + 4) := nI_add i 4
  have a5 : nI i + 5 = nI (i + 5) := nI_add i 5
  have sc := fun (q : Nat) (hq : q < i + 6) (I : Nat → Nat → Int32) => ia_sc (X := X) (I := I) (show g.length ≤ 600 by omega) (show q < X.1 by omega) (by omega)
  have sc' := fun (q : Nat) (hq : q < i + 6) (I : Nat → Nat → Int32) => ia_sc (X := X) (I := I) (show g'.length ≤ 600 by omega) (show q < X.1 by omega) (by omega)
  simp only [e_L_law_1022, e_L_law_1023, e_L_law_1024, e_L_law_1025, e_L_law_1026, e_L_law_1027, e_L_law_1028, e_L_law_1029, e_L_law_1030, e_L_law_1031, e_L_law_1032, e_L_law_1033, e_L_law_1036, e_L_law_1037, e_L_law_1038, e_L_law_1039, e_L_law_1040, e_L_law_1041, e_L_law_1042, e_L_law_1043, e_L_law_1044, e_L_law_1045, e_L_law_1046, e_L_law_1047, e_L_law_1050, e_L_law_1053, e_L_law_1054, a1, a2, a3, a4, a5, sc (i + 1) (by omega), sc' (i + 1) (by omega), sc (i + 2) (by omega), sc' (i + 2) (by omega), sc (i + 3) (by omega), sc' (i + 3) (by omega), sc (i + 4) (by omega), sc' (i + 4) (by omega), sc (i + 5) (by omega), sc' (i + 5) (by omega), sh_o_0, sh_o_82, hB, hM, pk_lawI wf_0, pk_lawI wf_I, pm_opt_some, if_true, true_and, eq_self, q10, q00, if_false, not_true_eq_false, not_false_eq_true]
theorem LC_count (hg : g.length ≤ 599) (hi : i + 6 ≤ X.1) (hX : X.1 ≤ 3072) (hP : Pair X 31 185 [.int (X.2.1 (i + 1))] g I J) : ∃ g' I2 J2, Rel I2 J2 ∧ pm_grw g g' ∧ ∀ (d : Nat) (Q : pm_O → Prop), pm_V X (d + 50) 192 1055 [some (.ref 1000000), some (.ref 0), some (.ref 82), some (.int (nI i))] [] (pm_S0 ++ g, I, J) Q = pm_V X (d + 50) 192 1291 [some (.ref 1000000), some (.ref 0), some (.ref 82), some (.int (nI i))] [] (pm_S0 ++ g', I2, J2) Q := by
  obtain ⟨v, g', I1, J1, I2, J2, hR, hgs, hv, hB, hM⟩ := hP
  obtain ⟨y, rfl⟩ := vk_int hv rfl
  have hl := gs_len hgs
  refine ⟨g', I2, J2, hR, hgs, fun d Q => ?_⟩
  have a1 : nI i + 1 = nI (i + 1) := nI_add i 1
  have a2 : nI i + 2 = nI (i + 2) := nI_add i 2
  have a3 : nI i + 3 = nI (i + 3) := nI_add i 3
  have a4 : nI i + 4 = nI (i + 4) := nI_add i 4
  have a5 : nI i + 5 = nI (i + 5) := nI_add i 5
  have sc := fun (q : Nat) (hq : q < i + 6) (I : Nat → Nat → Int32) => ia_sc (X := X) (I := I) (show g.length ≤ 600 by omega) (show q < X.1 by omega) (by omega)
  have sc' := fun (q : Nat) (hq : q < i + 6) (I : Nat → Nat → Int32) => ia_sc (X := X) (I := I) (show g'.length ≤ 600 by omega) (show q < X.1 by omega) (by omega)
  simp only [e_L_law_1055, e_L_law_1056, e_L_law_1057, e_L_law_1058, e_L_law_1059, e_L_law_1060, e_L_law_1061, e_L_law_1064, e_L_law_1065, e_L_law_1066, e_L_law_1067, e_L_law_1068, e_L_law_1069, e_L_law_1070, e_L_law_1073, e_L_law_1076, e_L_law_1077, a1, a2, a3, a4, a5, sc (i + 1) (by omega), sc' (i + 1) (by omega), sc (i + 2) (by omega), sc' (i + 2) (by omega), sc (i + 3) (by omega), sc' (i + 3) (by omega), sc (i + 4) (by omega), sc' (i + 4) (by omega), sc (i + 5) (by omega), sc' (i + 5) (by omega), sh_o_0, sh_o_82, hB, hM, pk_lawI wf_0, pk_lawI wf_I, pm_opt_some, if_true, true_and, eq_self, q10, q00, if_false, not_true_eq_false, not_false_eq_true]
theorem LC_tape (hg : g.length ≤ 599) (hi : i + 6 ≤ X.1) (hX : X.1 ≤ 3072) (hP : Pair X 32 187 [.int (X.2.1 (i + 1)), .int (X.2.1 (i + 2)), .int (X.2.1 (i + 3))] g I J) : ∃ g' I2 J2, Rel I2 J2 ∧ pm_grw g g' ∧ ∀ (d : Nat) (Q : pm_O → Prop), pm_V X (d + 50) 192 1078 [some (.ref 1000000), some (.ref 0), some (.ref 82), some (.int (nI i))] [] (pm_S0 ++ g, I, J) Q = pm_V X (d + 50) 192 1291 [some (.ref 1000000), some (.ref 0), some (.ref 82), some (.int (nI i))] [] (pm_S0 ++ g', I2, J2) Q := by
  obtain ⟨v, g', I1, J1, I2, J2, hR, hgs, hv, hB, hM⟩ := hP
  obtain ⟨y, rfl⟩ := vk_int hv rfl
  have hl := gs_len hgs
  refine ⟨g', I2, J2, hR, hgs, fun d Q => ?_⟩
  have a1 : nI i + 1 = nI (i + 1) := nI_add i 1
  have a2 : nI i + 2 = nI (i + 2) := nI_add i 2
  have a3 : nI i + 3 = nI (i + 3) := nI_add i 3
  have a4 : nI i + 4 = nI (i + 4) := nI_add i 4
  have a5 : nI i + 5 = nI (i + 5) := nI_add i 5
  have sc := fun (q : Nat) (hq : q < i + 6) (I : Nat → Nat → Int32) => ia_sc (X := X) (I := I) (show g.length ≤ 600 by omega) (show q < X.1 by omega) (by omega)
  have sc' := fun (q : Nat) (hq : q < i + 6) (I : Nat → Nat → Int32) => ia_sc (X := X) (I := I) (show g'.length ≤ 600 by omega) (show q < X.1 by omega) (by omega)
  simp only [e_L_law_1078, e_L_law_1079, e_L_law_1080, e_L_law_1081, e_L_law_1082, e_L_law_1083, e_L_law_1084, e_L_law_1085, e_L_law_1086, e_L_law_1087, e_L_law_1088, e_L_law_1089, e_L_law_1090, e_L_law_1091, e_L_law_1092, e_L_law_1093, e_L_law_1094, e_L_law_1097, e_L_law_1098, e_L_law_1099, e_L_law_1100, e_L_law_1101, e_L_law_1102, e_L_law_1103, e_L_law_1104, e_L_law_1105, e_L_law_1106, e_L_law_1107, e_L_law_1108, e_L_law_1109, e_L_law_1110, e_L_law_1111, e_L_law_1112, e_L_law_1113, e_L_law_1116, e_L_law_1119, e_L_law_1120, a1, a2, a3, a4, a5, sc (i + 1) (by omega), sc' (i + 1) (by omega), sc (i + 2) (by omega), sc' (i + 2) (by omega), sc (i + 3) (by omega), sc' (i + 3) (by omega), sc (i + 4) (by omega), sc' (i + 4) (by omega), sc (i + 5) (by omega), sc' (i + 5) (by omega), sh_o_0, sh_o_82, hB, hM, pk_lawI wf_0, pk_lawI wf_I, pm_opt_some, if_true, true_and, eq_self, q10, q00, if_false, not_true_eq_false, not_false_eq_true]
theorem LC_item (hg : g.length ≤ 599) (hi : i + 6 ≤ X.1) (hX : X.1 ≤ 3072) (hP : Pair X 33 189 [.int (X.2.1 (i + 1)), .int (X.2.1 (i + 2)), .long ((X.2.1 (i + 3)).toInt64 <<< (Int32.toInt64 32 &&& 63) ||| ((X.2.1 (i + 4)).toInt64 &&& 4294967295))] g I J) : ∃ g' I2 J2, Rel I2 J2 ∧ pm_grw g g' ∧ ∀ (d : Nat) (Q : pm_O → Prop), pm_V X (d + 50) 192 1121 [some (.ref 1000000), some (.ref 0), some (.ref 82), some (.int (nI i))] [] (pm_S0 ++ g, I, J) Q = pm_V X (d + 50) 192 1291 [some (.ref 1000000), some (.ref 0), some (.ref 82), some (.int (nI i))] [] (pm_S0 ++ g', I2, J2) Q := by
  obtain ⟨v, g', I1, J1, I2, J2, hR, hgs, hv, hB, hM⟩ := hP
  obtain ⟨y, rfl⟩ := vk_int hv rfl
  have hl := gs_len hgs
  refine ⟨g', I2, J2, hR, hgs, fun d Q => ?_⟩
  have a1 : nI i + 1 = nI (i + 1) := nI_add i 1
  have a2 : nI i + 2 = nI (i + 2) := nI_add i 2
  have a3 : nI i + 3 = nI (i + 3) := nI_add i 3
  have a4 : nI i + 4 = nI (i + 4) := nI_add i 4
  have a5 : nI i + 5 = nI (i + 5) := nI_add i 5
  have sc := fun (q : Nat) (hq : q < i + 6) (I : Nat → Nat → Int32) => ia_sc (X := X) (I := I) (show g.length ≤ 600 by omega) (show q < X.1 by omega) (by omega)
  have sc' := fun (q : Nat) (hq : q < i + 6) (I : Nat → Nat → Int32) => ia_sc (X := X) (I := I) (show g'.length ≤ 600 by omega) (show q < X.1 by omega) (by omega)
  simp only [e_L_law_1121, e_L_law_1122, e_L_law_1123, e_L_law_1124, e_L_law_1125, e_L_law_1126, e_L_law_1127, e_L_law_1128, e_L_law_1129, e_L_law_1130, e_L_law_1131, e_L_law_1132, e_L_law_1133, e_L_law_1134, e_L_law_1135, e_L_law_1136, e_L_law_1137, e_L_law_1138, e_L_law_1140, e_L_law_1141, e_L_law_1142, e_L_law_1143, e_L_law_1144, e_L_law_1145, e_L_law_1146, e_L_law_1147, e_L_law_1150, e_L_law_1151, e_L_law_1152, e_L_law_1155, e_L_law_1156, e_L_law_1157, e_L_law_1158, e_L_law_1159, e_L_law_1160, e_L_law_1161, e_L_law_1162, e_L_law_1163, e_L_law_1164, e_L_law_1165, e_L_law_1166, e_L_law_1167, e_L_law_1168, e_L_law_1169, e_L_law_1170, e_L_law_1171, e_L_law_1172, e_L_law_1174, e_L_law_1175, e_L_law_1176, e_L_law_1177, e_L_law_1178, e_L_law_1179, e_L_law_1180, e_L_law_1181, e_L_law_1184, e_L_law_1185, e_L_law_1186, e_L_law_1189, e_L_law_1192, e_L_law_1193, a1, a2, a3, a4, a5, sc (i + 1) (by omega), sc' (i + 1) (by omega), sc (i + 2) (by omega), sc' (i + 2) (by omega), sc (i + 3) (by omega), sc' (i + 3) (by omega), sc (i + 4) (by omega), sc' (i + 4) (by omega), sc (i + 5) (by omega), sc' (i + 5) (by omega), sh_o_0, sh_o_82, hB, hM, pk_lawI wf_0, pk_lawI wf_I, pm_opt_some, if_true, true_and, eq_self, q10, q00, if_false, not_true_eq_false, not_false_eq_true]
theorem LC_read (hg : g.length ≤ 599) (hi : i + 6 ≤ X.1) (hX : X.1 ≤ 3072) (hP : Pair X 34 190 [.int (X.2.1 (i + 1)), .int (X.2.1 (i + 2))] g I J) : ∃ g' I2 J2, Rel I2 J2 ∧ pm_grw g g' ∧ ∀ (d : Nat) (Q : pm_O → Prop), pm_V X (d + 50) 192 1194 [some (.ref 1000000), some (.ref 0), some (.ref 82), some (.int (nI i))] [] (pm_S0 ++ g, I, J) Q = pm_V X (d + 50) 192 1291 [some (.ref 1000000), some (.ref 0), some (.ref 82), some (.int (nI i))] [] (pm_S0 ++ g', I2, J2) Q := by
  obtain ⟨v, g', I1, J1, I2, J2, hR, hgs, hv, hB, hM⟩ := hP
  obtain ⟨y, rfl⟩ := vk_long hv rfl
  have hl := gs_len hgs
  refine ⟨g', I2, J2, hR, hgs, fun d Q => ?_⟩
  have a1 : nI i + 1 = nI (i + 1) := nI_add i 1
  have a2 : nI i + 2 = nI (i + 2) := nI_add i 2
  have a3 : nI i + 3 = nI (i + 3) := nI_add i 3
  have a4 : nI i + 4 = nI (i + 4) := nI_add i 4
  have a5 : nI i + 5 = nI (i + 5) := nI_add i 5
  have sc := fun (q : Nat) (hq : q < i + 6) (I : Nat → Nat → Int32) => ia_sc (X := X) (I := I) (show g.length ≤ 600 by omega) (show q < X.1 by omega) (by omega)
  have sc' := fun (q : Nat) (hq : q < i + 6) (I : Nat → Nat → Int32) => ia_sc (X := X) (I := I) (show g'.length ≤ 600 by omega) (show q < X.1 by omega) (by omega)
  simp only [e_L_law_1194, e_L_law_1195, e_L_law_1196, e_L_law_1197, e_L_law_1198, e_L_law_1199, e_L_law_1200, e_L_law_1201, e_L_law_1202, e_L_law_1203, e_L_law_1204, e_L_law_1205, e_L_law_1208, e_L_law_1209, e_L_law_1210, e_L_law_1211, e_L_law_1212, e_L_law_1213, e_L_law_1214, e_L_law_1215, e_L_law_1216, e_L_law_1217, e_L_law_1218, e_L_law_1219, e_L_law_1222, e_L_law_1223, e_L_law_1226, e_L_law_1227, a1, a2, a3, a4, a5, sc (i + 1) (by omega), sc' (i + 1) (by omega), sc (i + 2) (by omega), sc' (i + 2) (by omega), sc (i + 3) (by omega), sc' (i + 3) (by omega), sc (i + 4) (by omega), sc' (i + 4) (by omega), sc (i + 5) (by omega), sc' (i + 5) (by omega), sh_o_0, sh_o_82, hB, hM, pk_lawL wf_0, pk_lawL wf_L, pm_opt_some, if_true, true_and, eq_self, q10, q00, if_false, not_true_eq_false, not_false_eq_true, lg_self]
theorem LC_shift (hg : g.length ≤ 599) (hi : i + 6 ≤ X.1) (hX : X.1 ≤ 3072) (hP : Pair X 35 191 [.int (X.2.1 (i + 1)), .int (X.2.1 (i + 2)), .int (X.2.1 (i + 3)), .int (X.2.1 (i + 4)), .int (X.2.1 (i + 5))] g I J) : ∃ g' I2 J2, Rel I2 J2 ∧ pm_grw g g' ∧ ∀ (d : Nat) (Q : pm_O → Prop), pm_V X (d + 50) 192 1228 [some (.ref 1000000), some (.ref 0), some (.ref 82), some (.int (nI i))] [] (pm_S0 ++ g, I, J) Q = pm_V X (d + 50) 192 1291 [some (.ref 1000000), some (.ref 0), some (.ref 82), some (.int (nI i))] [] (pm_S0 ++ g', I2, J2) Q := by
  obtain ⟨v, g', I1, J1, I2, J2, hR, hgs, hv, hB, hM⟩ := hP
  obtain ⟨y, rfl⟩ := vk_int hv rfl
  have hl := gs_len hgs
  refine ⟨g', I2, J2, hR, hgs, fun d Q => ?_⟩
  have a1 : nI i + 1 = nI (i + 1) := nI_add i 1
  have a2 : nI i + 2 = nI (i + 2) := nI_add i 2
  have a3 : nI i + 3 = nI (i + 3) := nI_add i 3
  have a4 : nI i + 4 = nI (i + 4) := nI_add i 4
  have a5 : nI i + 5 = nI (i + 5) := nI_add i 5
  have sc := fun (q : Nat) (hq : q < i + 6) (I : Nat → Nat → Int32) => ia_sc (X := X) (I := I) (show g.length ≤ 600 by omega) (show q < X.1 by omega) (by omega)
  have sc' := fun (q : Nat) (hq : q < i + 6) (I : Nat → Nat → Int32) => ia_sc (X := X) (I := I) (show g'.length ≤ 600 by omega) (show q < X.1 by omega) (by omega)
  simp only [e_L_law_1228, e_L_law_1229, e_L_law_1230, e_L_law_1231, e_L_law_1232, e_L_law_1233, e_L_law_1234, e_L_law_1235, e_L_law_1236, e_L_law_1237, e_L_law_1238, e_L_law_1239, e_L_law_1240, e_L_law_1241, e_L_law_1242, e_L_law_1243, e_L_law_1244, e_L_law_1245, e_L_law_1246, e_L_law_1247, e_L_law_1248, e_L_law_1249, e_L_law_1250, e_L_law_1251, e_L_law_1252, e_L_law_1253, e_L_law_1254, e_L_law_1257, e_L_law_1258, e_L_law_1259, e_L_law_1260, e_L_law_1261, e_L_law_1262, e_L_law_1263, e_L_law_1264, e_L_law_1265, e_L_law_1266, e_L_law_1267, e_L_law_1268, e_L_law_1269, e_L_law_1270, e_L_law_1271, e_L_law_1272, e_L_law_1273, e_L_law_1274, e_L_law_1275, e_L_law_1276, e_L_law_1277, e_L_law_1278, e_L_law_1279, e_L_law_1280, e_L_law_1281, e_L_law_1282, e_L_law_1283, e_L_law_1286, e_L_law_1289, e_L_law_1290, a1, a2, a3, a4, a5, sc (i + 1) (by omega), sc' (i + 1) (by omega), sc (i + 2) (by omega), sc' (i + 2) (by omega), sc (i + 3) (by omega), sc' (i + 3) (by omega), sc (i + 4) (by omega), sc' (i + 4) (by omega), sc (i + 5) (by omega), sc' (i + 5) (by omega), sh_o_0, sh_o_82, hB, hM, pk_lawI wf_0, pk_lawI wf_I, pm_opt_some, if_true, true_and, eq_self, q10, q00, if_false, not_true_eq_false, not_false_eq_true]
theorem law_loop (hX : X.1 ≤ 3072) : ∀ (n k : Nat) (g : List pm_S) (I : Nat → Nat → Int32) (J : Nat → Nat → Int64), k + n = 512 → g.length ≤ k → gOK g → Rel I J → ∃ g' I' J', g'.length ≤ 512 ∧ (∀ c ∈ g', c.1 = 0 ∧ c.2.1 = 6) ∧ ∀ (d : Nat) (Q : pm_O → Prop), pm_V X (d + 50) 192 18 [some (.ref 1000000), some (.ref 0), some (.ref 82), some (.int (nI (6 * k)))] [] (pm_S0 ++ g, I, J) Q = Q (some (.int 1), (pm_S0 ++ g', I', J')) := by
  have stop : ∀ (k : Nat) (g : List pm_S) (I : Nat → Nat → Int32) (J : Nat → Nat → Int64), X.1 < 6 * k + 6 → k ≤ 512 → g.length ≤ k → ∀ (d : Nat) (Q : pm_O → Prop), pm_V X (d + 50) 192 18 [some (.ref 1000000), some (.ref 0), some (.ref 82), some (.int (nI (6 * k)))] [] (pm_S0 ++ g, I, J) Q = Q (some (.int 1), (pm_S0 ++ g, I, J)) := by
    intro k g I J h hk hg d Q
    have hlt : (nI X.1 - 6 < nI (6 * k)) = True := by
      refine eq_true ?_
      have e : (nI X.1 - nI 6).toInt = (X.1 : Int) - 6 := pk_sub_toInt (by omega) (by omega)
      rw [i_lt, show (6 : Int32) = nI 6 from rfl, e, nI_toInt (by omega)]
      omega
    rw [e_L_law_18]
    simp only [e_L_law_0, e_L_law_3, e_L_law_4, e_L_law_7, e_L_law_8, e_L_law_11, e_L_law_12, e_L_law_15, e_L_law_16, e_L_law_17, e_L_law_19, e_L_law_20, e_L_law_21, e_L_law_23, e_L_law_24, e_L_law_27, e_L_law_28, e_L_law_29, e_L_law_30, e_L_law_32, e_L_law_33_c0, e_L_law_33_c1, e_L_law_33_c2, e_L_law_33_c3, e_L_law_33_c4, e_L_law_33_c5, e_L_law_33_c6, e_L_law_33_c7, e_L_law_33_c8, e_L_law_33_c9, e_L_law_33_c10, e_L_law_33_c11, e_L_law_33_c12, e_L_law_33_c13, e_L_law_33_c14, e_L_law_33_c15, e_L_law_33_c16, e_L_law_33_c17, e_L_law_33_c18, e_L_law_33_c19, e_L_law_33_c20, e_L_law_33_c21, e_L_law_33_c22, e_L_law_33_c23, e_L_law_33_c24, e_L_law_33_c25, e_L_law_33_c26, e_L_law_33_c27, e_L_law_33_c28, e_L_law_33_c29, e_L_law_33_c30, e_L_law_33_c31, e_L_law_33_c32, e_L_law_33_c33, e_L_law_33_c34, e_L_law_33_d, e_L_law_188, e_L_law_189, e_L_law_190, e_L_law_191, e_L_law_192, e_L_law_193, e_L_law_194, e_L_law_195, e_L_law_196, e_L_law_197, e_L_law_198, e_L_law_199, e_L_law_200, e_L_law_201, e_L_law_202, e_L_law_203, e_L_law_204, e_L_law_205, e_L_law_206, e_L_law_207, e_L_law_208, e_L_law_209, e_L_law_212, e_L_law_213, e_L_law_214, e_L_law_215, e_L_law_216, e_L_law_217, e_L_law_218, e_L_law_219, e_L_law_220, e_L_law_221, e_L_law_222, e_L_law_223, e_L_law_224, e_L_law_225, e_L_law_226, e_L_law_227, e_L_law_228, e_L_law_229, e_L_law_230, e_L_law_231, e_L_law_232, e_L_law_233, e_L_law_236, e_L_law_239, e_L_law_240, e_L_law_241, e_L_law_242, e_L_law_243, e_L_law_244, e_L_law_245, e_L_law_246, e_L_law_247, e_L_law_248, e_L_law_249, e_L_law_250, e_L_law_251, e_L_law_252, e_L_law_255, e_L_law_256, e_L_law_257, e_L_law_258, e_L_law_259, e_L_law_260, e_L_law_261, e_L_law_262, e_L_law_263, e_L_law_264, e_L_law_265, e_L_law_266, e_L_law_269, e_L_law_272, e_L_law_273, e_L_law_274, e_L_law_275, e_L_law_276, e_L_law_277, e_L_law_278, e_L_law_279, e_L_law_280, e_L_law_281, e_L_law_282, e_L_law_283, e_L_law_284, e_L_law_285, e_L_law_288, e_L_law_289, e_L_law_290, e_L_law_291, e_L_law_292, e_L_law_293, e_L_law_294, e_L_law_295, e_L_law_296, e_L_law_297, e_L_law_298, e_L_law_299, e_L_law_302, e_L_law_305, e_L_law_306, e_L_law_307, e_L_law_308, e_L_law_311, e_L_law_312, e_L_law_315, e_L_law_318, e_L_law_319, e_L_law_320, e_L_law_321, e_L_law_322, e_L_law_323, e_L_law_324, e_L_law_325, e_L_law_326, e_L_law_327, e_L_law_328, e_L_law_329, e_L_law_330, e_L_law_331, e_L_law_334, e_L_law_335, e_L_law_336, e_L_law_337, e_L_law_338, e_L_law_339, e_L_law_340, e_L_law_341, e_L_law_342, e_L_law_343, e_L_law_344, e_L_law_345, e_L_law_348, e_L_law_351, e_L_law_352, e_L_law_353, e_L_law_354, e_L_law_357, e_L_law_358, e_L_law_361, e_L_law_364, e_L_law_365, e_L_law_366, e_L_law_367, e_L_law_368, e_L_law_369, e_L_law_370, e_L_law_371, e_L_law_372, e_L_law_373, e_L_law_374, e_L_law_375, e_L_law_376, e_L_law_377, e_L_law_380, e_L_law_381, e_L_law_382, e_L_law_383, e_L_law_384, e_L_law_385, e_L_law_386, e_L_law_387, e_L_law_388, e_L_law_389, e_L_law_390, e_L_law_391, e_L_law_394, e_L_law_397, e_L_law_398, e_L_law_399, e_L_law_400, e_L_law_401, e_L_law_402, e_L_law_403, e_L_law_404, e_L_law_405, e_L_law_406, e_L_law_407, e_L_law_408, e_L_law_409, e_L_law_410, e_L_law_413, e_L_law_414, e_L_law_417, e_L_law_418, e_L_law_421, e_L_law_422, e_L_law_423, e_L_law_424, e_L_law_425, e_L_law_426, e_L_law_427, e_L_law_428, e_L_law_429, e_L_law_430, e_L_law_431, e_L_law_432, e_L_law_435, e_L_law_436, e_L_law_439, e_L_law_440, e_L_law_443, e_L_law_446, e_L_law_447, e_L_law_448, e_L_law_449, e_L_law_450, e_L_law_451, e_L_law_452, e_L_law_453, e_L_law_454, e_L_law_455, e_L_law_456, e_L_law_457, e_L_law_458, e_L_law_459, e_L_law_460, e_L_law_461, e_L_law_462, e_L_law_463, e_L_law_464, e_L_law_467, e_L_law_468, e_L_law_469, e_L_law_470, e_L_law_471, e_L_law_472, e_L_law_473, e_L_law_474, e_L_law_475, e_L_law_476, e_L_law_477, e_L_law_478, e_L_law_479, e_L_law_480, e_L_law_481, e_L_law_482, e_L_law_483, e_L_law_486, e_L_law_489, e_L_law_490, e_L_law_491, e_L_law_492, e_L_law_493, e_L_law_494, e_L_law_495, e_L_law_496, e_L_law_497, e_L_law_500, e_L_law_501, e_L_law_502, e_L_law_503, e_L_law_504, e_L_law_505, e_L_law_506, e_L_law_509, e_L_law_512, e_L_law_513, e_L_law_514, e_L_law_515, e_L_law_516, e_L_law_517, e_L_law_518, e_L_law_519, e_L_law_520, e_L_law_523, e_L_law_524, e_L_law_525, e_L_law_526, e_L_law_527, e_L_law_528, e_L_law_529, e_L_law_532, e_L_law_535, e_L_law_536, e_L_law_537, e_L_law_538, e_L_law_539, e_L_law_540, e_L_law_541, e_L_law_542, e_L_law_543, e_L_law_546, e_L_law_547, e_L_law_548, e_L_law_549, e_L_law_550, e_L_law_551, e_L_law_552, e_L_law_555, e_L_law_558, e_L_law_559, e_L_law_560, e_L_law_561, e_L_law_562, e_L_law_563, e_L_law_564, e_L_law_565, e_L_law_566, e_L_law_567, e_L_law_568, e_L_law_569, e_L_law_570, e_L_law_571, e_L_law_574, e_L_law_575, e_L_law_576, e_L_law_577, e_L_law_578, e_L_law_579, e_L_law_580, e_L_law_581, e_L_law_582, e_L_law_583, e_L_law_584, e_L_law_585, e_L_law_588, e_L_law_591, e_L_law_592, e_L_law_593, e_L_law_594, e_L_law_595, e_L_law_596, e_L_law_597, e_L_law_598, e_L_law_599, e_L_law_602, e_L_law_603, e_L_law_604, e_L_law_605, e_L_law_606, e_L_law_607, e_L_law_608, e_L_law_611, e_L_law_614, e_L_law_615, e_L_law_616, e_L_law_617, e_L_law_618, e_L_law_619, e_L_law_620, e_L_law_621, e_L_law_622, e_L_law_623, e_L_law_624, e_L_law_625, e_L_law_626, e_L_law_627, e_L_law_630, e_L_law_631, e_L_law_632, e_L_law_633, e_L_law_634, e_L_law_635, e_L_law_636, e_L_law_637, e_L_law_638, e_L_law_639, e_L_law_640, e_L_law_641, e_L_law_644, e_L_law_647, e_L_law_648, e_L_law_649, e_L_law_650, e_L_law_651, e_L_law_652, e_L_law_653, e_L_law_654, e_L_law_655, e_L_law_658, e_L_law_659, e_L_law_660, e_L_law_661, e_L_law_662, e_L_law_663, e_L_law_664, e_L_law_667, e_L_law_670, e_L_law_671, e_L_law_672, e_L_law_673, e_L_law_674, e_L_law_675, e_L_law_676, e_L_law_677, e_L_law_678, e_L_law_679, e_L_law_680, e_L_law_681, e_L_law_682, e_L_law_683, e_L_law_684, e_L_law_685, e_L_law_686, e_L_law_687, e_L_law_688, e_L_law_691, e_L_law_692, e_L_law_693, e_L_law_694, e_L_law_695, e_L_law_696, e_L_law_697, e_L_law_698, e_L_law_699, e_L_law_700, e_L_law_701, e_L_law_702, e_L_law_703, e_L_law_704, e_L_law_705, e_L_law_706, e_L_law_707, e_L_law_710, e_L_law_713, e_L_law_714, e_L_law_715, e_L_law_716, e_L_law_719, e_L_law_720, e_L_law_723, e_L_law_726, e_L_law_727, e_L_law_728, e_L_law_729, e_L_law_730, e_L_law_731, e_L_law_732, e_L_law_733, e_L_law_734, e_L_law_735, e_L_law_736, e_L_law_737, e_L_law_738, e_L_law_739, e_L_law_740, e_L_law_741, e_L_law_742, e_L_law_743, e_L_law_744, e_L_law_747, e_L_law_748, e_L_law_749, e_L_law_750, e_L_law_751, e_L_law_752, e_L_law_753, e_L_law_754, e_L_law_755, e_L_law_756, e_L_law_757, e_L_law_758, e_L_law_759, e_L_law_760, e_L_law_761, e_L_law_762, e_L_law_763, e_L_law_766, e_L_law_769, e_L_law_770, e_L_law_771, e_L_law_772, e_L_law_773, e_L_law_774, e_L_law_775, e_L_law_776, e_L_law_777, e_L_law_780, e_L_law_781, e_L_law_782, e_L_law_783, e_L_law_784, e_L_law_785, e_L_law_786, e_L_law_789, e_L_law_792, e_L_law_793, e_L_law_794, e_L_law_795, e_L_law_798, e_L_law_799, e_L_law_802, e_L_law_805, e_L_law_806, e_L_law_807, e_L_law_808, e_L_law_809, e_L_law_810, e_L_law_811, e_L_law_812, e_L_law_813, e_L_law_816, e_L_law_817, e_L_law_818, e_L_law_819, e_L_law_820, e_L_law_821, e_L_law_822, e_L_law_825, e_L_law_828, e_L_law_829, e_L_law_830, e_L_law_831, e_L_law_832, e_L_law_833, e_L_law_834, e_L_law_835, e_L_law_836, e_L_law_837, e_L_law_838, e_L_law_839, e_L_law_840, e_L_law_841, e_L_law_844, e_L_law_845, e_L_law_846, e_L_law_847, e_L_law_848, e_L_law_849, e_L_law_850, e_L_law_851, e_L_law_852, e_L_law_853, e_L_law_854, e_L_law_855, e_L_law_858, e_L_law_861, e_L_law_862, e_L_law_863, e_L_law_864, e_L_law_865, e_L_law_866, e_L_law_867, e_L_law_868, e_L_law_869, e_L_law_870, e_L_law_871, e_L_law_872, e_L_law_873, e_L_law_874, e_L_law_877, e_L_law_878, e_L_law_879, e_L_law_880, e_L_law_881, e_L_law_882, e_L_law_883, e_L_law_884, e_L_law_885, e_L_law_886, e_L_law_887, e_L_law_888, e_L_law_891, e_L_law_892, e_L_law_895, e_L_law_896, e_L_law_897, e_L_law_898, e_L_law_899, e_L_law_900, e_L_law_901, e_L_law_902, e_L_law_903, e_L_law_904, e_L_law_905, e_L_law_906, e_L_law_907, e_L_law_908, e_L_law_911, e_L_law_912, e_L_law_913, e_L_law_914, e_L_law_915, e_L_law_916, e_L_law_917, e_L_law_918, e_L_law_919, e_L_law_920, e_L_law_921, e_L_law_922, e_L_law_925, e_L_law_928, e_L_law_929, e_L_law_930, e_L_law_931, e_L_law_934, e_L_law_935, e_L_law_938, e_L_law_941, e_L_law_942, e_L_law_943, e_L_law_944, e_L_law_947, e_L_law_948, e_L_law_951, e_L_law_954, e_L_law_955, e_L_law_956, e_L_law_957, e_L_law_958, e_L_law_959, e_L_law_960, e_L_law_961, e_L_law_962, e_L_law_963, e_L_law_964, e_L_law_965, e_L_law_966, e_L_law_967, e_L_law_968, e_L_law_969, e_L_law_970, e_L_law_971, e_L_law_972, e_L_law_975, e_L_law_976, e_L_law_977, e_L_law_978, e_L_law_979, e_L_law_980, e_L_law_981, e_L_law_982, e_L_law_983, e_L_law_984, e_L_law_985, e_L_law_986, e_L_law_987, e_L_law_988, e_L_law_989, e_L_law_990, e_L_law_991, e_L_law_994, e_L_law_997, e_L_law_998, e_L_law_999, e_L_law_1000, e_L_law_1001, e_L_law_1002, e_L_law_1003, e_L_law_1004, e_L_law_1005, e_L_law_1008, e_L_law_1009, e_L_law_1010, e_L_law_1011, e_L_law_1012, e_L_law_1013, e_L_law_1014, e_L_law_1017, e_L_law_1020, e_L_law_1021, e_L_law_1022, e_L_law_1023, e_L_law_1024, e_L_law_1025, e_L_law_1026, e_L_law_1027, e_L_law_1028, e_L_law_1029, e_L_law_1030, e_L_law_1031, e_L_law_1032, e_L_law_1033, e_L_law_1036, e_L_law_1037, e_L_law_1038, e_L_law_1039, e_L_law_1040, e_L_law_1041, e_L_law_1042, e_L_law_1043, e_L_law_1044, e_L_law_1045, e_L_law_1046, e_L_law_1047, e_L_law_1050, e_L_law_1053, e_L_law_1054, e_L_law_1055, e_L_law_1056, e_L_law_1057, e_L_law_1058, e_L_law_1059, e_L_law_1060, e_L_law_1061, e_L_law_1064, e_L_law_1065, e_L_law_1066, e_L_law_1067, e_L_law_1068, e_L_law_1069, e_L_law_1070, e_L_law_1073, e_L_law_1076, e_L_law_1077, e_L_law_1078, e_L_law_1079, e_L_law_1080, e_L_law_1081, e_L_law_1082, e_L_law_1083, e_L_law_1084, e_L_law_1085, e_L_law_1086, e_L_law_1087, e_L_law_1088, e_L_law_1089, e_L_law_1090, e_L_law_1091, e_L_law_1092, e_L_law_1093, e_L_law_1094, e_L_law_1097, e_L_law_1098, e_L_law_1099, e_L_law_1100, e_L_law_1101, e_L_law_1102, e_L_law_1103, e_L_law_1104, e_L_law_1105, e_L_law_1106, e_L_law_1107, e_L_law_1108, e_L_law_1109, e_L_law_1110, e_L_law_1111, e_L_law_1112, e_L_law_1113, e_L_law_1116, e_L_law_1119, e_L_law_1120, e_L_law_1121, e_L_law_1122, e_L_law_1123, e_L_law_1124, e_L_law_1125, e_L_law_1126, e_L_law_1127, e_L_law_1128, e_L_law_1129, e_L_law_1130, e_L_law_1131, e_L_law_1132, e_L_law_1133, e_L_law_1134, e_L_law_1135, e_L_law_1136, e_L_law_1137, e_L_law_1138, e_L_law_1140, e_L_law_1141, e_L_law_1142, e_L_law_1143, e_L_law_1144, e_L_law_1145, e_L_law_1146, e_L_law_1147, e_L_law_1150, e_L_law_1151, e_L_law_1152, e_L_law_1155, e_L_law_1156, e_L_law_1157, e_L_law_1158, e_L_law_1159, e_L_law_1160, e_L_law_1161, e_L_law_1162, e_L_law_1163, e_L_law_1164, e_L_law_1165, e_L_law_1166, e_L_law_1167, e_L_law_1168, e_L_law_1169, e_L_law_1170, e_L_law_1171, e_L_law_1172, e_L_law_1174, e_L_law_1175, e_L_law_1176, e_L_law_1177, e_L_law_1178, e_L_law_1179, e_L_law_1180, e_L_law_1181, e_L_law_1184, e_L_law_1185, e_L_law_1186, e_L_law_1189, e_L_law_1192, e_L_law_1193, e_L_law_1194, e_L_law_1195, e_L_law_1196, e_L_law_1197, e_L_law_1198, e_L_law_1199, e_L_law_1200, e_L_law_1201, e_L_law_1202, e_L_law_1203, e_L_law_1204, e_L_law_1205, e_L_law_1208, e_L_law_1209, e_L_law_1210, e_L_law_1211, e_L_law_1212, e_L_law_1213, e_L_law_1214, e_L_law_1215, e_L_law_1216, e_L_law_1217, e_L_law_1218, e_L_law_1219, e_L_law_1222, e_L_law_1223, e_L_law_1226, e_L_law_1227, e_L_law_1228, e_L_law_1229, e_L_law_1230, e_L_law_1231, e_L_law_1232, e_L_law_1233, e_L_law_1234, e_L_law_1235, e_L_law_1236, e_L_law_1237, e_L_law_1238, e_L_law_1239, e_L_law_1240, e_L_law_1241, e_L_law_1242, e_L_law_1243, e_L_law_1244, e_L_law_1245, e_L_law_1246, e_L_law_1247, e_L_law_1248, e_L_law_1249, e_L_law_1250, e_L_law_1251, e_L_law_1252, e_L_law_1253, e_L_law_1254, e_L_law_1257, e_L_law_1258, e_L_law_1259, e_L_law_1260, e_L_law_1261, e_L_law_1262, e_L_law_1263, e_L_law_1264, e_L_law_1265, e_L_law_1266, e_L_law_1267, e_L_law_1268, e_L_law_1269, e_L_law_1270, e_L_law_1271, e_L_law_1272, e_L_law_1273, e_L_law_1274, e_L_law_1275, e_L_law_1276, e_L_law_1277, e_L_law_1278, e_L_law_1279, e_L_law_1280, e_L_law_1281, e_L_law_1282, e_L_law_1283, e_L_law_1286, e_L_law_1289, e_L_law_1290, e_L_law_1291, e_L_law_1294, e_L_law_1297, e_L_law_1298, ln_sc (show g.length ≤ 600 by omega), hlt, qz1, pm_opt_some, pm_opt_none, pm_opt_if, Bool.false_eq_true, Bool.not_false, Bool.not_true, if_false, if_true, true_and, and_true, true_or, or_true, not_true_eq_false, not_false_eq_true, q10, q00, q01, q11, pk_v, pk_i, pk_l, pk_r]
  intro n
  induction n with
  | zero =>
    intro k g I J hk hg hr hR
    exact ⟨g, I, J, by omega, fun c hc => ⟨(hr c hc).1, (hr c hc).2.1⟩, stop k g I J (by omega) (by omega) hg⟩
  | succ n ih =>
    intro k g I J hk hg hr hR
    by_cases hi : X.1 < 6 * k + 6
    · exact ⟨g, I, J, by omega, fun c hc => ⟨(hr c hc).1, (hr c hc).2.1⟩, stop k g I J hi (by omega) hg⟩
    · have hi' : 6 * k + 6 ≤ X.1 := by omega
      -- behind a case
      have go : ∀ (pc : Nat), (∃ g' I2 J2, Rel I2 J2 ∧ pm_grw g g' ∧ ∀ (d : Nat) (Q : pm_O → Prop), pm_V X (d + 50) 192 pc [some (.ref 1000000), some (.ref 0), some (.ref 82), some (.int (nI (6 * k)))] [] (pm_S0 ++ g, I, J) Q = pm_V X (d + 50) 192 1291 [some (.ref 1000000), some (.ref 0), some (.ref 82), some (.int (nI (6 * k)))] [] (pm_S0 ++ g', I2, J2) Q) → ∃ g' I' J', g'.length ≤ 512 ∧ (∀ c ∈ g', c.1 = 0 ∧ c.2.1 = 6) ∧ ∀ (d : Nat) (Q : pm_O → Prop), pm_V X (d + 50) 192 pc [some (.ref 1000000), some (.ref 0), some (.ref 82), some (.int (nI (6 * k)))] [] (pm_S0 ++ g, I, J) Q = Q (some (.int 1), (pm_S0 ++ g', I', J')) := by
        rintro pc ⟨g1, I2, J2, h1, h2, h3⟩
        have hr1 : gOK g1 := by
          rcases h2 with rfl | ⟨rs, hrs, rfl⟩
          · exact hr
          · intro c hc
            rcases List.mem_append.mp hc with z | z
            · exact hr c z
            · rw [List.mem_singleton.mp z]
              exact ⟨rfl, rfl, hrs⟩
        have hl := gs_len h2
        obtain ⟨g', I', J', e1, e2, e3⟩ := ih (k + 1) g1 I2 J2 (by omega) (by omega) hr1 h1
        refine ⟨g', I', J', e1, e2, fun d Q => ?_⟩
        have e6 : nI (6 * k) + 6 = nI (6 * (k + 1)) := nI_add (6 * k) 6
        rw [h3, ← e3 d Q]
        simp only [e_L_law_1291, e_L_law_1294, e6]
      obtain ⟨j, hj, ej⟩ := pk_andE (X.2.1 (6 * k)) (m := 63) 6 (by decide)
      have hlt : (nI X.1 - 6 < nI (6 * k)) = False := by
        refine eq_false ?_
        have e : (nI X.1 - nI 6).toInt = (X.1 : Int) - 6 := pk_sub_toInt (by omega) (by omega)
        rw [i_lt, show (6 : Int32) = nI 6 from rfl, e, nI_toInt (by omega)]
        omega
      have hd : ∀ (d : Nat) (Q : pm_O → Prop), pm_V X (d + 50) 192 18 [some (.ref 1000000), some (.ref 0), some (.ref 82), some (.int (nI (6 * k)))] [] (pm_S0 ++ g, I, J) Q = pm_V X (d + 50) 192 33 [some (.ref 1000000), some (.ref 0), some (.ref 82), some (.int (nI (6 * k)))] [.int (nI j)] (pm_S0 ++ g, I, J) Q := by
        intro d Q
        rw [e_L_law_18]
        simp only [e_L_law_19, e_L_law_20, e_L_law_21, e_L_law_23, e_L_law_24, e_L_law_27, e_L_law_28, e_L_law_29, e_L_law_30, e_L_law_32, ln_sc (show g.length ≤ 600 by omega), ia_sc (show g.length ≤ 600 by omega) (show 6 * k < X.1 by omega) (show X.1 < 2 ^ 31 by omega), hlt, ej, pm_opt_some, if_false]
      have fin : ∀ (pc : Nat), (∀ (d : Nat) (Q : pm_O → Prop), pm_V X (d + 50) 192 33 [some (.ref 1000000), some (.ref 0), some (.ref 82), some (.int (nI (6 * k)))] [.int (nI j)] (pm_S0 ++ g, I, J) Q = pm_V X (d + 50) 192 pc [some (.ref 1000000), some (.ref 0), some (.ref 82), some (.int (nI (6 * k)))] [] (pm_S0 ++ g, I, J) Q) → (∃ g' I2 J2, Rel I2 J2 ∧ pm_grw g g' ∧ ∀ (d : Nat) (Q : pm_O → Prop), pm_V X (d + 50) 192 pc [some (.ref 1000000), some (.ref 0), some (.ref 82), some (.int (nI (6 * k)))] [] (pm_S0 ++ g, I, J) Q = pm_V X (d + 50) 192 1291 [some (.ref 1000000), some (.ref 0), some (.ref 82), some (.int (nI (6 * k)))] [] (pm_S0 ++ g', I2, J2) Q) → ∃ g' I' J', g'.length ≤ 512 ∧ (∀ c ∈ g', c.1 = 0 ∧ c.2.1 = 6) ∧ ∀ (d : Nat) (Q : pm_O → Prop), pm_V X (d + 50) 192 18 [some (.ref 1000000), some (.ref 0), some (.ref 82), some (.int (nI (6 * k)))] [] (pm_S0 ++ g, I, J) Q = Q (some (.int 1), (pm_S0 ++ g', I', J')) := by
        intro pc h1 h2
        obtain ⟨g', I', J', e1, e2, e3⟩ := go pc h2
        exact ⟨g', I', J', e1, e2, fun d Q => by rw [hd, h1, e3]⟩
      have hg' : g.length ≤ 599 := by omega
      have hg6 : g.length ≤ 600 := by omega
      by_cases hj35 : j < 35
      · have hc : j = 0 ∨ j = 1 ∨ j = 2 ∨ j = 3 ∨ j = 4 ∨ j = 5 ∨ j = 6 ∨ j = 7 ∨ j = 8 ∨ j = 9 ∨ j = 10 ∨ j = 11 ∨ j = 12 ∨ j = 13 ∨ j = 14 ∨ j = 15 ∨ j = 16 ∨ j = 17 ∨ j = 18 ∨ j = 19 ∨ j = 20 ∨ j = 21 ∨ j = 22 ∨ j = 23 ∨ j = 24 ∨ j = 25 ∨ j = 26 ∨ j = 27 ∨ j = 28 ∨ j = 29 ∨ j = 30 ∨ j = 31 ∨ j = 32 ∨ j = 33 ∨ j = 34 := by omega
        rcases hc with rfl | rfl | rfl | rfl | rfl | rfl | rfl | rfl | rfl | rfl | rfl | rfl | rfl | rfl | rfl | rfl | rfl | rfl | rfl | rfl | rfl | rfl | rfl | rfl | rfl | rfl | rfl | rfl | rfl | rfl | rfl | rfl | rfl | rfl | rfl
        · exact fin 188 (fun d Q => e_L_law_33_c0) (LC_lay hg' hi' hX (Pair_lay hR))
        · exact fin 241 (fun d Q => e_L_law_33_c1) (LC_of hg' hi' hX (Pair_of hR))
        · exact fin 274 (fun d Q => e_L_law_33_c2) (LC_children hg' hi' hX (Pair_children hR))
        · exact fin 307 (fun d Q => e_L_law_33_c3) (LC_fall hg' hi' hX (Pair_fall hR))
        · exact fin 320 (fun d Q => e_L_law_33_c4) (LC_feed hg' hi' hX (Pair_feed hR))
        · exact fin 353 (fun d Q => e_L_law_33_c5) (LC_winter hg' hi' hX (Pair_winter hg6 hr hR))
        · exact fin 366 (fun d Q => e_L_law_33_c6) (LC_told hg' hi' hX (Pair_told hR))
        · exact fin 399 (fun d Q => e_L_law_33_c7) (LC_warm hg' hi' hX rfl (Pair_warm hR))
        · exact fin 448 (fun d Q => e_L_law_33_c8) (LC_place hg' hi' hX (Pair_place hR))
        · exact fin 491 (fun d Q => e_L_law_33_c9) (LC_cold hg' hi' hX (Pair_cold hR))
        · exact fin 514 (fun d Q => e_L_law_33_c10) (LC_go hg' hi' hX (Pair_go hR))
        · exact fin 537 (fun d Q => e_L_law_33_c11) (LC_when hg' hi' hX (Pair_when hR))
        · exact fin 560 (fun d Q => e_L_law_33_c12) (LC_thin hg' hi' hX (Pair_thin hR))
        · exact fin 593 (fun d Q => e_L_law_33_c13) (LC_reach hg' hi' hX (Pair_reach hR))
        · exact fin 616 (fun d Q => e_L_law_33_c14) (LC_sweep hg' hi' hX (Pair_sweep hR))
        · exact fin 649 (fun d Q => e_L_law_33_c15) (LC_lamp hg' hi' hX (Pair_lamp hR))
        · exact fin 672 (fun d Q => e_L_law_33_c16) (LC_board hg' hi' hX (Pair_board hR))
        · exact fin 715 (fun d Q => e_L_law_33_c17) (LC_rope hg' hi' hX (Pair_rope hR))
        · exact fin 728 (fun d Q => e_L_law_33_c18) (LC_hole hg' hi' hX (Pair_hole hR))
        · exact fin 771 (fun d Q => e_L_law_33_c19) (LC_off hg' hi' hX (Pair_off hR))
        · exact fin 794 (fun d Q => e_L_law_33_c20) (LC_likely hg' hi' hX (Pair_likely hR))
        · exact fin 807 (fun d Q => e_L_law_33_c21) (LC_blows hg' hi' hX (Pair_blows hR))
        · exact fin 830 (fun d Q => e_L_law_33_c22) (LC_odds hg' hi' hX (Pair_odds hR))
        · exact fin 863 (fun d Q => e_L_law_33_c23) (LC_sure hg' hi' hX (Pair_sure hR))
        · exact fin 897 (fun d Q => e_L_law_33_c24) (LC_judge hg' hi' hX (Pair_judge hR))
        · exact fin 930 (fun d Q => e_L_law_33_c25) (LC_image hg' hi' hX (Pair_image hR))
        · exact fin 943 (fun d Q => e_L_law_33_c26) (LC_undo hg' hi' hX (Pair_undo hR))
        · exact fin 956 (fun d Q => e_L_law_33_c27) (LC_act hg' hi' hX (Pair_act hg6 hR))
        · exact fin 999 (fun d Q => e_L_law_33_c28) (LC_trace hg' hi' hX (Pair_trace hR))
        · exact fin 1022 (fun d Q => e_L_law_33_c29) (LC_taken hg' hi' hX (Pair_taken hg6 hR))
        · exact fin 1055 (fun d Q => e_L_law_33_c30) (LC_count hg' hi' hX (Pair_count hR))
        · exact fin 1078 (fun d Q => e_L_law_33_c31) (LC_tape hg' hi' hX (Pair_tape hR))
        · exact fin 1121 (fun d Q => e_L_law_33_c32) (LC_item hg' hi' hX (Pair_item hR))
        · exact fin 1194 (fun d Q => e_L_law_33_c33) (LC_read hg' hi' hX (Pair_read hR))
        · exact fin 1228 (fun d Q => e_L_law_33_c34) (LC_shift hg' hi' hX (Pair_shift hR))
      · refine fin 1291 (fun d Q => e_L_law_33_d (Or.inr ?_)) ⟨g, I, J, hR, Or.inl rfl, fun d Q => rfl⟩
        rw [nI_toInt (by omega)]
        omega
end P60
