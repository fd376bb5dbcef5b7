/-! what must hold for a clause: the reference's side, by the class's bits -/
def encM (p : Int32) : Int32 := if p = -1 then -33 else if p = -2 then -38 else if p = -3 then -124 else 1000 * (p / 300) + (p - p / 300 * 300)
def dpC (code : Nat → Int32) : Nat → Nat → Nat → Prop
  | _, 0, dep => dep = 1
  | i, n + 1, dep => (code i = -1 ∧ 1 ≤ dep ∧ dpC code (i + 1) n dep) ∨ ((code i = -2 ∨ code i = -3) ∧ 2 ≤ dep ∧ dpC code (i + 1) n (dep - 1)) ∨ ((∃ m, m < 900 ∧ code i = nI m) ∧ dep ≤ 10 ∧ dpC code (i + 1) n (dep + 1))
def bt (x : Int32) (j : Nat) : Bool := x.toBitVec.getLsbD j
def bR (x : Int32) (dep : Nat) (f : Nat → Int32) : Prop := dep ≤ 11 ∧ ∀ j, j < dep → f (dep - 1 - j) = if bt x j = true then 1 else 0
def frM (I : Nat → Nat → Int32) (c : Nat) : Nat := (I 94 c).toNatClampNeg
def clR (I : Nat → Nat → Int32) (w c cm : Nat) : Prop := I 94 cm = nI (frM I cm) ∧ I 95 cm = nI (frM I cm + (enI I w c - frE (enI I w) c)) ∧ frM I cm + (enI I w c - frE (enI I w) c) ≤ 500 ∧ (∀ i, i < enI I w c - frE (enI I w) c → I 96 (frM I cm + i) = encM (I (w + 4) (frE (enI I w) c + i))) ∧ dpC (I (w + 4)) (frE (enI I w) c) (enI I w c - frE (enI I w) c) 0
section P31
variable {X : pm_X} {d : Nat} {P Q : pm_O → Prop} {g : List pm_S} {S : List pm_S} {I I' : Nat → Nat → Int32} {J : Nat → Nat → Int64} {w c : Nat} {x : Int32} {j : Nat}
theorem bt_xor (hj : j < 31) : bt (x ^^^ 1) j = (bt x j ^^ decide (j = 0)) := by
  unfold bt
  rw [Int32.toBitVec_xor, BitVec.getLsbD_xor, show (1 : Int32).toBitVec = 1#32 from rfl, BitVec.getLsbD_one]
  simp
theorem bt_shr : (x >>> ((1 : Int32) &&& 31)).toBitVec = x.toBitVec.sshiftRight 1 := rfl
theorem bt_shl : (x <<< ((1 : Int32) &&& 31)).toBitVec = x.toBitVec <<< 1 := rfl
theorem bt_and (hj : j < 31) : bt ((x >>> ((1 : Int32) &&& 31)) &&& (x ||| -2)) j = (bt x (j + 1) && (bt x j || !decide (j = 0))) := by
  unfold bt
  rw [Int32.toBitVec_and, BitVec.getLsbD_and, bt_shr, BitVec.getLsbD_sshiftRight, Int32.toBitVec_or, BitVec.getLsbD_or, show (-2 : Int32).toBitVec = ~~~1#32 from rfl, BitVec.getLsbD_not, BitVec.getLsbD_one, Nat.add_comm 1 j]
  have h1 : ¬ 32 ≤ j := by omega
  have h2 : j + 1 < 32 := by omega
  have h3 : j < 32 := by omega
  simp [h1, h2, h3]
theorem bt_or (hj : j < 31) : bt ((x >>> ((1 : Int32) &&& 31)) ||| (x &&& 1)) j = (bt x (j + 1) || (bt x j && decide (j = 0))) := by
  unfold bt
  rw [Int32.toBitVec_or, BitVec.getLsbD_or, bt_shr, BitVec.getLsbD_sshiftRight, Int32.toBitVec_and, BitVec.getLsbD_and, show (1 : Int32).toBitVec = 1#32 from rfl, BitVec.getLsbD_one, Nat.add_comm 1 j]
  have h1 : ¬ 32 ≤ j := by omega
  have h2 : j + 1 < 32 := by omega
  simp [h1, h2]
theorem bt_psh {b : Bool} (hj : j < 31) : bt ((x <<< ((1 : Int32) &&& 31)) ||| (if b = true then 1 else 0)) j = if j = 0 then b else bt x (j - 1) := by
  unfold bt
  rw [Int32.toBitVec_or, BitVec.getLsbD_or, bt_shl, BitVec.getLsbD_shiftLeft]
  have h3 : j < 32 := by omega
  cases b with
  | true =>
    rw [if_pos rfl, show (1 : Int32).toBitVec = 1#32 from rfl, BitVec.getLsbD_one]
    by_cases h : j = 0
    · simp [h]
    · have : ¬ j < 1 := by omega
      simp [h, h3, this]
  | false =>
    rw [if_neg (by simp), show (0 : Int32).toBitVec = 0#32 from rfl]
    by_cases h : j = 0
    · simp [h]
    · have : ¬ j < 1 := by omega
      simp [h, h3, this]
theorem bt_0 : (x &&& 1 = 1) ↔ bt x 0 = true := by
  have e : bt (x &&& 1) 0 = bt x 0 := by
    unfold bt
    rw [Int32.toBitVec_and, BitVec.getLsbD_and, show (1 : Int32).toBitVec = 1#32 from rfl]
    simp
  constructor
  · intro h
    rw [← e, h]
    rfl
  · intro h
    rw [← e] at h
    refine Int32.toBitVec_inj.mp (BitVec.eq_of_getLsbD_eq (fun i hi => ?_))
    rw [Int32.toBitVec_and, BitVec.getLsbD_and, show (1 : Int32).toBitVec = 1#32 from rfl, BitVec.getLsbD_one]
    by_cases h0 : i = 0
    · subst h0
      rw [e] at h
      unfold bt at h
      simp [h]
    · simp [h0]
/-- all tests, by their numbers -/
theorem tst_all : ∀ m, m < 900 → (¬ nI m = -1 ∧ ¬ nI m = -2 ∧ ¬ nI m = -3 ∧ ¬ encM (nI m) = -33 ∧ 0 ≤ encM (nI m)) ∧ (1000 ≤ encM (nI m) ↔ ¬ nI m / 300 = 0) ∧ (2000 ≤ encM (nI m) ↔ (¬ nI m / 300 = 0 ∧ ¬ nI m / 300 = 1)) ∧ encM (nI m) / 100 - encM (nI m) / 100 / 10 * 10 = nI m / 100 - nI m / 100 / 3 * 3 ∧ encM (nI m) - encM (nI m) / 100 * 100 = nI m - nI m / 100 * 100 := by decide +kernel
theorem nb0 : vp_nar .boolean 0 = 0 := rfl
theorem nb1 : vp_nar .boolean 1 = 1 := rfl
theorem q1000 : ((1000 : Int32) = 0) = False := by decide
theorem q10z : ((10 : Int32) = 0) = False := by decide
theorem pw98 {f : Nat → Int32} {k : Nat} {v : Int32} {a : Nat} : pm_w (pm_up I a f) a k v = pm_up I a (upd f k v) := by
  funext q i
  rw [pm_w_app]
  unfold pm_up upd
  by_cases h : q = a
  · by_cases h2 : i = k
    · simp [h, h2]
    · simp [h, h2]
  · simp [h]
theorem pw98u {f h : Nat → Int32} {a : Nat} : pm_up (pm_up I a f) a h = pm_up I a h := by
  funext q i
  unfold pm_up
  by_cases h : q = a
  · simp [h]
  · simp [h]
theorem pw98i {a : Nat} : pm_up I a (I a) = I := by
  funext q i
  unfold pm_up
  by_cases h : q = a
  · simp [h]
  · simp [h]
/-- one token on the bits -/
theorem bR_not {dep : Nat} {f : Nat → Int32} (h : bR x (dep + 1) f) : bR (x ^^^ 1) (dep + 1) (upd f dep (if f dep = 0 then 1 else 0)) := by
  refine ⟨h.1, fun j hj => ?_⟩
  have h1 := h.1
  have hj31 : j < 31 := by omega
  rw [bt_xor hj31, upd_app]
  have h0 := h.2 0 (by omega)
  rw [show dep + 1 - 1 - 0 = dep by omega] at h0
  by_cases e : j = 0
  · subst e
    rw [if_pos (by omega), h0]
    cases bt x 0 <;> simp
  · rw [if_neg (by omega), h.2 j hj]
    simp [e]
theorem bR_bin {dep : Nat} {f : Nat → Int32} {v : Int32} {y : Int32} (h : bR x (dep + 2) f) (hv : v = if bt y 0 = true then 1 else 0) (hy : ∀ j, 0 < j → j < 31 → bt y j = bt x (j + 1)) : bR y (dep + 1) (upd f dep v) := by
  have h1 := h.1
  refine ⟨by omega, fun j hj => ?_⟩
  rw [upd_app]
  by_cases e : j = 0
  · subst e
    rw [if_pos (by omega), hv]
  · rw [if_neg (by omega), hy j (by omega) (by omega), show dep + 1 - 1 - j = dep + 2 - 1 - (j + 1) by omega, h.2 (j + 1) (by omega)]
theorem bR_psh {dep : Nat} {f : Nat → Int32} {b : Bool} (h : bR x dep f) (hd : dep ≤ 10) : bR ((x <<< ((1 : Int32) &&& 31)) ||| (if b = true then 1 else 0)) (dep + 1) (upd f dep (if b = true then 1 else 0)) := by
  refine ⟨by omega, fun j hj => ?_⟩
  rw [upd_app, bt_psh (by omega)]
  by_cases e : j = 0
  · subst e
    rw [if_pos (by omega), if_pos rfl]
  · rw [if_neg (by omega), if_neg e, show dep + 1 - 1 - j = dep - 1 - (j - 1) by omega, h.2 (j - 1) (by omega)]
/-- the reference's test, its answer -/
theorem K_M_has {a b : Int32} : pm_cl X (d + 1) 109 [.ref 82, .int a, .int b] (S, I, J) P = P (some (.int (if a >>> (b &&& 31) &&& 1 = 1 then 1 else 0)), (S, I, J)) := by
  refine K_of (k := 0) (fun d' => ?_)
  show pm_V X d' 109 0 [some (.ref 82), some (.int a), some (.int b)] [] (S, I, J) _
  simp only [e_M_has_0, e_M_has_1, e_M_has_2, e_M_has_3, e_M_has_4, e_M_has_5, e_M_has_6, e_M_has_9, e_M_has_10, e_M_has_13, e_M_has_14]
  by_cases q : a >>> (b &&& 31) &&& 1 = 1
  · simp [q]
  · simp [q]
theorem isSo_val {t hour warm : Int32} : (if isSoI t hour warm = true then (1 : Int32) else 0) = (if t / 100 - t / 100 / 3 * 3 = 0 then (if tvI (t / 300) hour warm < t - t / 100 * 100 then 1 else 0) else if t / 100 - t / 100 / 3 * 3 = 1 then (if tvI (t / 300) hour warm = t - t / 100 * 100 then 1 else 0) else (if t - t / 100 * 100 < tvI (t / 300) hour warm then 1 else 0)) := by
  unfold isSoI
  split
  · simp
  · split
    · simp
    · simp
/-- the test's value, put on the pile -/
theorem H_205 {dep : Nat} {cm k h warm t is s : Int32} {f : Nat → Int32} (hdep : dep < 100) : pm_V X d 132 205 [some (.ref 82), some (.int cm), some (.int h), some (.int warm), some (.int (nI dep)), some (.int k), some (.int t), some (.int is), some (.int s)] [] (pm_S0 ++ g, pm_up I 98 f, J) Q = pm_V X d 132 11 [some (.ref 82), some (.int cm), some (.int h), some (.int warm), some (.int (nI (dep + 1))), some (.int (k + 1)), some (.int t), some (.int is), some (.int s)] [] (pm_S0 ++ g, pm_up I 98 (upd f dep (if s = 0 then (if is < t - t / 100 * 100 then 1 else 0) else if s = 1 then (if is = t - t / 100 * 100 then 1 else 0) else (if t - t / 100 * 100 < is then 1 else 0))), J) Q := by
  have hbd := bad_nI (k := dep) (n := 100) hdep (by decide)
  have hcd := nI_clamp (n := dep) (by omega)
  simp only [e_M_holds_0, e_M_holds_1, e_M_holds_3, e_M_holds_4, e_M_holds_7, e_M_holds_8, e_M_holds_9, e_M_holds_13, e_M_holds_14, e_M_holds_17, e_M_holds_18, e_M_holds_19, e_M_holds_22, e_M_holds_23, e_M_holds_26, e_M_holds_28, e_M_holds_29, e_M_holds_31, e_M_holds_33, e_M_holds_35, e_M_holds_38, e_M_holds_39, e_M_holds_42, e_M_holds_44, e_M_holds_45, e_M_holds_46, e_M_holds_47, e_M_holds_50, e_M_holds_52, e_M_holds_53, e_M_holds_54, e_M_holds_55, e_M_holds_58, e_M_holds_59, e_M_holds_62, e_M_holds_63, e_M_holds_64, e_M_holds_67, e_M_holds_69, e_M_holds_72, e_M_holds_75, e_M_holds_76, e_M_holds_79, e_M_holds_81, e_M_holds_82, e_M_holds_83, e_M_holds_85, e_M_holds_87, e_M_holds_90, e_M_holds_91, e_M_holds_94, e_M_holds_96, e_M_holds_97, e_M_holds_98, e_M_holds_99, e_M_holds_102, e_M_holds_103, e_M_holds_106, e_M_holds_108, e_M_holds_109, e_M_holds_112, e_M_holds_113, e_M_holds_116, e_M_holds_117, e_M_holds_120, e_M_holds_121, e_M_holds_124, e_M_holds_126, e_M_holds_127, e_M_holds_128, e_M_holds_129, e_M_holds_132, e_M_holds_133, e_M_holds_136, e_M_holds_138, e_M_holds_139, e_M_holds_142, e_M_holds_143, e_M_holds_146, e_M_holds_147, e_M_holds_148, e_M_holds_151, e_M_holds_153, e_M_holds_156, e_M_holds_159, e_M_holds_160, e_M_holds_162, e_M_holds_163, e_M_holds_166, e_M_holds_168, e_M_holds_171, e_M_holds_174, e_M_holds_175, e_M_holds_177, e_M_holds_178, e_M_holds_180, e_M_holds_181, e_M_holds_184, e_M_holds_185, e_M_holds_188, e_M_holds_189, e_M_holds_192, e_M_holds_193, e_M_holds_195, e_M_holds_197, e_M_holds_199, e_M_holds_200, e_M_holds_202, e_M_holds_203, e_M_holds_205, e_M_holds_206, e_M_holds_209, e_M_holds_211, e_M_holds_213, e_M_holds_216, e_M_holds_218, e_M_holds_220, e_M_holds_222, e_M_holds_223, e_M_holds_226, e_M_holds_227, e_M_holds_230, e_M_holds_231, e_M_holds_234, e_M_holds_236, e_M_holds_237, e_M_holds_240, e_M_holds_242, e_M_holds_244, e_M_holds_246, e_M_holds_247, e_M_holds_250, e_M_holds_251, e_M_holds_254, e_M_holds_255, e_M_holds_258, e_M_holds_260, e_M_holds_262, e_M_holds_264, e_M_holds_265, e_M_holds_268, e_M_holds_269, e_M_holds_272, e_M_holds_273, e_M_holds_274, e_M_holds_277, e_M_holds_280, e_M_holds_283, e_M_holds_284, e_M_holds_287, e_M_holds_288, e_M_holds_289, sh_r_82_25, sh_w_98, sh_w2_98, qh0, hbd, hcd, nb0, nb1, pw98, nI_1, pm_opt_some, pm_opt_none, pm_opt_if, Bool.false_eq_true, Bool.not_false, Bool.not_true, if_false, if_true, true_and, and_true, true_or, or_true, not_true_eq_false, not_false_eq_true, q10, q00, q01, q11, pk_v, pk_i, pk_l, pk_r]
  by_cases q0 : s = 0
  · by_cases q : t - t / 100 * 100 ≤ is
    · have q' : ¬ is < t - t / 100 * 100 := Int32.not_lt.mpr q
      simp [q0, q, q']
    · have q' : is < t - t / 100 * 100 := Int32.not_le.mp q
      simp [q0, q, q']
  · by_cases q1 : s = 1
    · by_cases q : is = t - t / 100 * 100
      · simp [q1, q]
      · simp [q1, q]
    · by_cases q : is ≤ t - t / 100 * 100
      · have q' : ¬ t - t / 100 * 100 < is := Int32.not_lt.mpr q
        simp [q0, q1, q, q']
      · have q' : t - t / 100 * 100 < is := Int32.not_le.mp q
        simp [q0, q1, q, q']
theorem H_151 {dep : Nat} {cm k h warm t : Int32} {l7 l8 : Option Value} {f : Nat → Int32} (hdep : dep < 100) (hw : warm = 0 ∨ warm = 1) : pm_V X d 132 151 [some (.ref 82), some (.int cm), some (.int h), some (.int warm), some (.int (nI dep)), some (.int k), some (.int t), l7, l8] [] (pm_S0 ++ g, pm_up I 98 f, J) Q = pm_V X d 132 205 [some (.ref 82), some (.int cm), some (.int h), some (.int warm), some (.int (nI dep)), some (.int k), some (.int t), some (.int (if 1000 ≤ t then (if 2000 ≤ t then warm else dayI h) else hodI h)), some (.int (t / 100 - t / 100 / 10 * 10))] [] (pm_S0 ++ g, pm_up I 98 f, J) Q := by
  simp only [e_M_holds_0, e_M_holds_1, e_M_holds_3, e_M_holds_4, e_M_holds_7, e_M_holds_8, e_M_holds_9, e_M_holds_13, e_M_holds_14, e_M_holds_17, e_M_holds_18, e_M_holds_19, e_M_holds_22, e_M_holds_23, e_M_holds_26, e_M_holds_28, e_M_holds_29, e_M_holds_31, e_M_holds_33, e_M_holds_35, e_M_holds_38, e_M_holds_39, e_M_holds_42, e_M_holds_44, e_M_holds_45, e_M_holds_46, e_M_holds_47, e_M_holds_50, e_M_holds_52, e_M_holds_53, e_M_holds_54, e_M_holds_55, e_M_holds_58, e_M_holds_59, e_M_holds_62, e_M_holds_63, e_M_holds_64, e_M_holds_67, e_M_holds_69, e_M_holds_72, e_M_holds_75, e_M_holds_76, e_M_holds_79, e_M_holds_81, e_M_holds_82, e_M_holds_83, e_M_holds_85, e_M_holds_87, e_M_holds_90, e_M_holds_91, e_M_holds_94, e_M_holds_96, e_M_holds_97, e_M_holds_98, e_M_holds_99, e_M_holds_102, e_M_holds_103, e_M_holds_106, e_M_holds_108, e_M_holds_109, e_M_holds_112, e_M_holds_113, e_M_holds_116, e_M_holds_117, e_M_holds_120, e_M_holds_121, e_M_holds_124, e_M_holds_126, e_M_holds_127, e_M_holds_128, e_M_holds_129, e_M_holds_132, e_M_holds_133, e_M_holds_136, e_M_holds_138, e_M_holds_139, e_M_holds_142, e_M_holds_143, e_M_holds_146, e_M_holds_147, e_M_holds_148, e_M_holds_151, e_M_holds_153, e_M_holds_156, e_M_holds_159, e_M_holds_160, e_M_holds_162, e_M_holds_163, e_M_holds_166, e_M_holds_168, e_M_holds_171, e_M_holds_174, e_M_holds_175, e_M_holds_177, e_M_holds_178, e_M_holds_180, e_M_holds_181, e_M_holds_184, e_M_holds_185, e_M_holds_188, e_M_holds_189, e_M_holds_192, e_M_holds_193, e_M_holds_195, e_M_holds_197, e_M_holds_199, e_M_holds_200, e_M_holds_202, e_M_holds_203, e_M_holds_206, e_M_holds_209, e_M_holds_211, e_M_holds_213, e_M_holds_216, e_M_holds_218, e_M_holds_220, e_M_holds_222, e_M_holds_223, e_M_holds_226, e_M_holds_227, e_M_holds_230, e_M_holds_231, e_M_holds_234, e_M_holds_236, e_M_holds_237, e_M_holds_240, e_M_holds_242, e_M_holds_244, e_M_holds_246, e_M_holds_247, e_M_holds_250, e_M_holds_251, e_M_holds_254, e_M_holds_255, e_M_holds_258, e_M_holds_260, e_M_holds_262, e_M_holds_264, e_M_holds_265, e_M_holds_268, e_M_holds_269, e_M_holds_272, e_M_holds_273, e_M_holds_274, e_M_holds_277, e_M_holds_280, e_M_holds_283, e_M_holds_284, e_M_holds_287, e_M_holds_288, e_M_holds_289, q24, qh0, q10z, hod_d, day_d, pm_opt_some, pm_opt_none, pm_opt_if, Bool.false_eq_true, Bool.not_false, Bool.not_true, if_false, if_true, true_and, and_true, true_or, or_true, not_true_eq_false, not_false_eq_true, q10, q00, q01, q11, pk_v, pk_i, pk_l, pk_r]
  by_cases q0 : 1000 ≤ t
  · by_cases q1 : 2000 ≤ t
    · rcases hw with rfl | rfl
      · simp [q0, q1]
      · simp [q0, q1]
    · simp [q0, q1]
  · simp [q0]
/-- one token of the reference, by its kind -/
theorem H_head {dep cm kk fr len : Nat} {hour warm t : Int32} {l6 l7 l8 : Option Value} {f : Nat → Int32} (hcm : cm < 50) (e95 : I 95 cm = nI (fr + len)) (h5 : fr + len ≤ 500) (hk : kk < fr + len) (he : I 96 kk = t) : pm_V X d 132 11 [some (.ref 82), some (.int (nI cm)), some (.int hour), some (.int warm), some (.int (nI dep)), some (.int (nI kk)), l6, l7, l8] [] (pm_S0 ++ g, pm_up I 98 f, J) Q = pm_V X d 132 31 [some (.ref 82), some (.int (nI cm)), some (.int hour), some (.int warm), some (.int (nI dep)), some (.int (nI kk)), some (.int t), l7, l8] [] (pm_S0 ++ g, pm_up I 98 f, J) Q := by
  have hbc := bad_nI (k := cm) (n := 50) hcm (by decide)
  have hcc := nI_clamp (n := cm) (by omega)
  have hbk := bad_nI (k := kk) (n := 500) (by omega) (by decide)
  have hck := nI_clamp (n := kk) (by omega)
  have hlt : (nI (fr + len) ≤ nI kk) = False := by
    rw [nI_le_l (by omega) (by omega)]
    exact eq_false (by omega)
  have n1 : ∀ q, ¬ q = 98 → ∀ f, pm_up I 98 f q = I q := fun q h f => pu_ne h
  rw [e_M_holds_11]
  simp only [e_M_holds_0, e_M_holds_1, e_M_holds_3, e_M_holds_4, e_M_holds_7, e_M_holds_8, e_M_holds_9, e_M_holds_13, e_M_holds_14, e_M_holds_17, e_M_holds_18, e_M_holds_19, e_M_holds_22, e_M_holds_23, e_M_holds_26, e_M_holds_28, e_M_holds_29, e_M_holds_33, e_M_holds_35, e_M_holds_38, e_M_holds_39, e_M_holds_42, e_M_holds_44, e_M_holds_45, e_M_holds_46, e_M_holds_47, e_M_holds_50, e_M_holds_52, e_M_holds_53, e_M_holds_54, e_M_holds_55, e_M_holds_58, e_M_holds_59, e_M_holds_62, e_M_holds_63, e_M_holds_64, e_M_holds_67, e_M_holds_69, e_M_holds_72, e_M_holds_75, e_M_holds_76, e_M_holds_79, e_M_holds_81, e_M_holds_82, e_M_holds_83, e_M_holds_85, e_M_holds_87, e_M_holds_90, e_M_holds_91, e_M_holds_94, e_M_holds_96, e_M_holds_97, e_M_holds_98, e_M_holds_99, e_M_holds_102, e_M_holds_103, e_M_holds_106, e_M_holds_108, e_M_holds_109, e_M_holds_112, e_M_holds_113, e_M_holds_116, e_M_holds_117, e_M_holds_120, e_M_holds_121, e_M_holds_124, e_M_holds_126, e_M_holds_127, e_M_holds_128, e_M_holds_129, e_M_holds_132, e_M_holds_133, e_M_holds_136, e_M_holds_138, e_M_holds_139, e_M_holds_142, e_M_holds_143, e_M_holds_146, e_M_holds_147, e_M_holds_148, e_M_holds_151, e_M_holds_153, e_M_holds_156, e_M_holds_159, e_M_holds_160, e_M_holds_162, e_M_holds_163, e_M_holds_166, e_M_holds_168, e_M_holds_171, e_M_holds_174, e_M_holds_175, e_M_holds_177, e_M_holds_178, e_M_holds_180, e_M_holds_181, e_M_holds_184, e_M_holds_185, e_M_holds_188, e_M_holds_189, e_M_holds_192, e_M_holds_193, e_M_holds_195, e_M_holds_197, e_M_holds_199, e_M_holds_200, e_M_holds_202, e_M_holds_203, e_M_holds_205, e_M_holds_206, e_M_holds_209, e_M_holds_211, e_M_holds_213, e_M_holds_216, e_M_holds_218, e_M_holds_220, e_M_holds_222, e_M_holds_223, e_M_holds_226, e_M_holds_227, e_M_holds_230, e_M_holds_231, e_M_holds_234, e_M_holds_236, e_M_holds_237, e_M_holds_240, e_M_holds_242, e_M_holds_244, e_M_holds_246, e_M_holds_247, e_M_holds_250, e_M_holds_251, e_M_holds_254, e_M_holds_255, e_M_holds_258, e_M_holds_260, e_M_holds_262, e_M_holds_264, e_M_holds_265, e_M_holds_268, e_M_holds_269, e_M_holds_272, e_M_holds_273, e_M_holds_274, e_M_holds_277, e_M_holds_280, e_M_holds_283, e_M_holds_284, e_M_holds_287, e_M_holds_288, e_M_holds_289, sh_r_82_19, sh_r_82_20, sh_i_95, sh_i_96, hbc, hcc, hbk, hck, n1 95 (by decide), n1 96 (by decide), e95, hlt, he, pm_opt_some, pm_opt_none, pm_opt_if, Bool.false_eq_true, Bool.not_false, Bool.not_true, if_false, if_true, true_and, and_true, true_or, or_true, not_true_eq_false, not_false_eq_true, q10, q00, q01, q11, pk_v, pk_i, pk_l, pk_r]
theorem H_not {dep : Nat} {cm kk h warm : Int32} {l7 l8 : Option Value} {f : Nat → Int32} (hdep : dep < 100) : pm_V X d 132 31 [some (.ref 82), some (.int cm), some (.int h), some (.int warm), some (.int (nI (dep + 1))), some (.int kk), some (.int (-33)), l7, l8] [] (pm_S0 ++ g, pm_up I 98 f, J) Q = pm_V X d 132 11 [some (.ref 82), some (.int cm), some (.int h), some (.int warm), some (.int (nI (dep + 1))), some (.int (kk + 1)), some (.int (-33)), l7, l8] [] (pm_S0 ++ g, pm_up I 98 (upd f dep (if f dep = 0 then 1 else 0)), J) Q := by
  have hbd := bad_nI (k := dep) (n := 100) hdep (by decide)
  have hcd := nI_clamp (n := dep) (by omega)
  simp only [e_M_holds_0, e_M_holds_1, e_M_holds_3, e_M_holds_4, e_M_holds_7, e_M_holds_8, e_M_holds_9, e_M_holds_13, e_M_holds_14, e_M_holds_17, e_M_holds_18, e_M_holds_19, e_M_holds_22, e_M_holds_23, e_M_holds_26, e_M_holds_28, e_M_holds_29, e_M_holds_31, e_M_holds_33, e_M_holds_35, e_M_holds_38, e_M_holds_39, e_M_holds_42, e_M_holds_44, e_M_holds_45, e_M_holds_46, e_M_holds_47, e_M_holds_50, e_M_holds_52, e_M_holds_53, e_M_holds_54, e_M_holds_55, e_M_holds_58, e_M_holds_59, e_M_holds_62, e_M_holds_63, e_M_holds_64, e_M_holds_69, e_M_holds_72, e_M_holds_75, e_M_holds_76, e_M_holds_79, e_M_holds_81, e_M_holds_82, e_M_holds_83, e_M_holds_85, e_M_holds_87, e_M_holds_90, e_M_holds_91, e_M_holds_94, e_M_holds_96, e_M_holds_97, e_M_holds_98, e_M_holds_99, e_M_holds_102, e_M_holds_103, e_M_holds_106, e_M_holds_108, e_M_holds_109, e_M_holds_112, e_M_holds_113, e_M_holds_116, e_M_holds_117, e_M_holds_120, e_M_holds_121, e_M_holds_124, e_M_holds_126, e_M_holds_127, e_M_holds_128, e_M_holds_129, e_M_holds_132, e_M_holds_133, e_M_holds_136, e_M_holds_138, e_M_holds_139, e_M_holds_142, e_M_holds_143, e_M_holds_146, e_M_holds_147, e_M_holds_148, e_M_holds_151, e_M_holds_153, e_M_holds_156, e_M_holds_159, e_M_holds_160, e_M_holds_162, e_M_holds_163, e_M_holds_166, e_M_holds_168, e_M_holds_171, e_M_holds_174, e_M_holds_175, e_M_holds_177, e_M_holds_178, e_M_holds_180, e_M_holds_181, e_M_holds_184, e_M_holds_185, e_M_holds_188, e_M_holds_189, e_M_holds_192, e_M_holds_193, e_M_holds_195, e_M_holds_197, e_M_holds_199, e_M_holds_200, e_M_holds_202, e_M_holds_203, e_M_holds_205, e_M_holds_206, e_M_holds_209, e_M_holds_211, e_M_holds_213, e_M_holds_216, e_M_holds_218, e_M_holds_220, e_M_holds_222, e_M_holds_223, e_M_holds_226, e_M_holds_227, e_M_holds_230, e_M_holds_231, e_M_holds_234, e_M_holds_236, e_M_holds_237, e_M_holds_240, e_M_holds_242, e_M_holds_244, e_M_holds_246, e_M_holds_247, e_M_holds_250, e_M_holds_251, e_M_holds_254, e_M_holds_255, e_M_holds_258, e_M_holds_260, e_M_holds_262, e_M_holds_264, e_M_holds_265, e_M_holds_268, e_M_holds_269, e_M_holds_272, e_M_holds_273, e_M_holds_274, e_M_holds_277, e_M_holds_280, e_M_holds_283, e_M_holds_284, e_M_holds_287, e_M_holds_288, e_M_holds_289, sh_r_82_25, sh_i_98, sh_w_98, sh_w2_98, hbd, hcd, nb0, nb1, pw98, pu_eq, nI_pred, pm_opt_some, pm_opt_none, pm_opt_if, Bool.false_eq_true, Bool.not_false, Bool.not_true, if_false, if_true, true_and, and_true, true_or, or_true, not_true_eq_false, not_false_eq_true, q10, q00, q01, q11, pk_v, pk_i, pk_l, pk_r]
  by_cases q : f dep = 0
  · simp [q]
  · simp [q]
theorem H_bin {dep : Nat} {cm kk h warm t : Int32} {l7 l8 : Option Value} {f : Nat → Int32} (hdep : dep < 90) (ht : t = -38 ∨ t = -124) : pm_V X d 132 31 [some (.ref 82), some (.int cm), some (.int h), some (.int warm), some (.int (nI (dep + 2))), some (.int kk), some (.int t), l7, l8] [] (pm_S0 ++ g, pm_up I 98 f, J) Q = pm_V X d 132 11 [some (.ref 82), some (.int cm), some (.int h), some (.int warm), some (.int (nI (dep + 1))), some (.int (kk + 1)), some (.int t), l7, l8] [] (pm_S0 ++ g, pm_up I 98 (upd f dep (if t = -38 then (if f dep = 0 then 0 else if f (dep + 1) = 0 then 0 else 1) else (if ¬ f dep = 0 then 1 else if f (dep + 1) = 0 then 0 else 1))), J) Q := by
  have hbd := bad_nI (k := dep) (n := 100) (by omega) (by decide)
  have hcd := nI_clamp (n := dep) (by omega)
  have hbe := bad_nI (k := dep + 1) (n := 100) (by omega) (by decide)
  have hce := nI_clamp (n := dep + 1) (by omega)
  have m1 : nI (dep + 2) + (-1) = nI (dep + 1) := pk_m1 (dep + 1)
  have u1 : ((-38 : Int32) = -33) = False := by decide
  have u2 : ((0 : Int32) ≤ -38) = False := by decide
  have u3 : ((-124 : Int32) = -33) = False := by decide
  have u4 : ((0 : Int32) ≤ -124) = False := by decide
  have u5 : ((-124 : Int32) = -38) = False := by decide
  rcases ht with rfl | rfl
  · simp only [e_M_holds_0, e_M_holds_1, e_M_holds_3, e_M_holds_4, e_M_holds_7, e_M_holds_8, e_M_holds_9, e_M_holds_13, e_M_holds_14, e_M_holds_17, e_M_holds_18, e_M_holds_19, e_M_holds_22, e_M_holds_23, e_M_holds_26, e_M_holds_28, e_M_holds_29, e_M_holds_31, e_M_holds_33, e_M_holds_35, e_M_holds_39, e_M_holds_42, e_M_holds_44, e_M_holds_45, e_M_holds_46, e_M_holds_47, e_M_holds_50, e_M_holds_52, e_M_holds_53, e_M_holds_54, e_M_holds_55, e_M_holds_58, e_M_holds_59, e_M_holds_62, e_M_holds_63, e_M_holds_64, e_M_holds_67, e_M_holds_69, e_M_holds_72, e_M_holds_75, e_M_holds_76, e_M_holds_79, e_M_holds_81, e_M_holds_82, e_M_holds_83, e_M_holds_85, e_M_holds_87, e_M_holds_90, e_M_holds_91, e_M_holds_94, e_M_holds_96, e_M_holds_97, e_M_holds_98, e_M_holds_99, e_M_holds_102, e_M_holds_103, e_M_holds_106, e_M_holds_108, e_M_holds_109, e_M_holds_112, e_M_holds_113, e_M_holds_116, e_M_holds_117, e_M_holds_120, e_M_holds_121, e_M_holds_124, e_M_holds_126, e_M_holds_127, e_M_holds_128, e_M_holds_129, e_M_holds_132, e_M_holds_133, e_M_holds_136, e_M_holds_138, e_M_holds_139, e_M_holds_142, e_M_holds_143, e_M_holds_146, e_M_holds_147, e_M_holds_148, e_M_holds_153, e_M_holds_156, e_M_holds_159, e_M_holds_160, e_M_holds_162, e_M_holds_163, e_M_holds_166, e_M_holds_168, e_M_holds_171, e_M_holds_174, e_M_holds_175, e_M_holds_177, e_M_holds_178, e_M_holds_180, e_M_holds_181, e_M_holds_184, e_M_holds_185, e_M_holds_188, e_M_holds_189, e_M_holds_192, e_M_holds_193, e_M_holds_195, e_M_holds_197, e_M_holds_199, e_M_holds_200, e_M_holds_202, e_M_holds_203, e_M_holds_205, e_M_holds_206, e_M_holds_209, e_M_holds_211, e_M_holds_213, e_M_holds_216, e_M_holds_218, e_M_holds_220, e_M_holds_222, e_M_holds_223, e_M_holds_226, e_M_holds_227, e_M_holds_230, e_M_holds_231, e_M_holds_234, e_M_holds_236, e_M_holds_237, e_M_holds_240, e_M_holds_242, e_M_holds_244, e_M_holds_246, e_M_holds_247, e_M_holds_250, e_M_holds_251, e_M_holds_254, e_M_holds_255, e_M_holds_258, e_M_holds_260, e_M_holds_262, e_M_holds_264, e_M_holds_265, e_M_holds_268, e_M_holds_269, e_M_holds_272, e_M_holds_273, e_M_holds_274, e_M_holds_277, e_M_holds_280, e_M_holds_283, e_M_holds_284, e_M_holds_287, e_M_holds_288, e_M_holds_289, sh_r_82_25, sh_i_98, sh_w_98, sh_w2_98, hbd, hcd, hbe, hce, nb0, nb1, pw98, pu_eq, nI_pred, u1, u2, m1, pm_opt_some, pm_opt_none, pm_opt_if, Bool.false_eq_true, Bool.not_false, Bool.not_true, if_false, if_true, true_and, and_true, true_or, or_true, not_true_eq_false, not_false_eq_true, q10, q00, q01, q11, pk_v, pk_i, pk_l, pk_r]
    by_cases q : f dep = 0
    · simp [q]
    · by_cases q2 : f (dep + 1) = 0
      · simp [q, q2]
      · simp [q, q2]
  · simp only [e_M_holds_0, e_M_holds_1, e_M_holds_3, e_M_holds_4, e_M_holds_7, e_M_holds_8, e_M_holds_9, e_M_holds_13, e_M_holds_14, e_M_holds_17, e_M_holds_18, e_M_holds_19, e_M_holds_22, e_M_holds_23, e_M_holds_26, e_M_holds_28, e_M_holds_29, e_M_holds_31, e_M_holds_33, e_M_holds_35, e_M_holds_39, e_M_holds_42, e_M_holds_44, e_M_holds_45, e_M_holds_46, e_M_holds_47, e_M_holds_50, e_M_holds_52, e_M_holds_53, e_M_holds_54, e_M_holds_55, e_M_holds_58, e_M_holds_59, e_M_holds_62, e_M_holds_63, e_M_holds_64, e_M_holds_67, e_M_holds_69, e_M_holds_72, e_M_holds_75, e_M_holds_76, e_M_holds_79, e_M_holds_81, e_M_holds_82, e_M_holds_83, e_M_holds_85, e_M_holds_87, e_M_holds_90, e_M_holds_91, e_M_holds_94, e_M_holds_96, e_M_holds_97, e_M_holds_98, e_M_holds_99, e_M_holds_102, e_M_holds_103, e_M_holds_106, e_M_holds_108, e_M_holds_109, e_M_holds_112, e_M_holds_113, e_M_holds_116, e_M_holds_117, e_M_holds_120, e_M_holds_121, e_M_holds_124, e_M_holds_126, e_M_holds_127, e_M_holds_128, e_M_holds_129, e_M_holds_132, e_M_holds_133, e_M_holds_136, e_M_holds_138, e_M_holds_139, e_M_holds_142, e_M_holds_143, e_M_holds_146, e_M_holds_147, e_M_holds_148, e_M_holds_153, e_M_holds_156, e_M_holds_159, e_M_holds_160, e_M_holds_162, e_M_holds_163, e_M_holds_166, e_M_holds_168, e_M_holds_171, e_M_holds_174, e_M_holds_175, e_M_holds_177, e_M_holds_178, e_M_holds_180, e_M_holds_181, e_M_holds_184, e_M_holds_185, e_M_holds_188, e_M_holds_189, e_M_holds_192, e_M_holds_193, e_M_holds_195, e_M_holds_197, e_M_holds_199, e_M_holds_200, e_M_holds_202, e_M_holds_203, e_M_holds_205, e_M_holds_206, e_M_holds_209, e_M_holds_211, e_M_holds_213, e_M_holds_216, e_M_holds_218, e_M_holds_220, e_M_holds_222, e_M_holds_223, e_M_holds_226, e_M_holds_227, e_M_holds_230, e_M_holds_231, e_M_holds_234, e_M_holds_236, e_M_holds_237, e_M_holds_240, e_M_holds_242, e_M_holds_244, e_M_holds_246, e_M_holds_247, e_M_holds_250, e_M_holds_251, e_M_holds_254, e_M_holds_255, e_M_holds_258, e_M_holds_260, e_M_holds_262, e_M_holds_264, e_M_holds_265, e_M_holds_268, e_M_holds_269, e_M_holds_272, e_M_holds_273, e_M_holds_274, e_M_holds_277, e_M_holds_280, e_M_holds_283, e_M_holds_284, e_M_holds_287, e_M_holds_288, e_M_holds_289, sh_r_82_25, sh_i_98, sh_w_98, sh_w2_98, hbd, hcd, hbe, hce, nb0, nb1, pw98, pu_eq, nI_pred, u3, u4, u5, m1, pm_opt_some, pm_opt_none, pm_opt_if, Bool.false_eq_true, Bool.not_false, Bool.not_true, if_false, if_true, true_and, and_true, true_or, or_true, not_true_eq_false, not_false_eq_true, q10, q00, q01, q11, pk_v, pk_i, pk_l, pk_r]
    by_cases q : f dep = 0
    · by_cases q2 : f (dep + 1) = 0
      · simp [q, q2]
      · simp [q, q2]
    · simp [q]
theorem H_tst {dep : Nat} {cm kk h warm t : Int32} {l7 l8 : Option Value} {f : Nat → Int32} (h1 : ¬ t = -33) (h2 : 0 ≤ t) : pm_V X d 132 31 [some (.ref 82), some (.int cm), some (.int h), some (.int warm), some (.int (nI dep)), some (.int kk), some (.int t), l7, l8] [] (pm_S0 ++ g, pm_up I 98 f, J) Q = pm_V X d 132 151 [some (.ref 82), some (.int cm), some (.int h), some (.int warm), some (.int (nI dep)), some (.int kk), some (.int t), l7, l8] [] (pm_S0 ++ g, pm_up I 98 f, J) Q := by
  simp only [e_M_holds_0, e_M_holds_1, e_M_holds_3, e_M_holds_4, e_M_holds_7, e_M_holds_8, e_M_holds_9, e_M_holds_13, e_M_holds_14, e_M_holds_17, e_M_holds_18, e_M_holds_19, e_M_holds_22, e_M_holds_23, e_M_holds_26, e_M_holds_28, e_M_holds_29, e_M_holds_31, e_M_holds_33, e_M_holds_35, e_M_holds_39, e_M_holds_42, e_M_holds_44, e_M_holds_45, e_M_holds_46, e_M_holds_47, e_M_holds_50, e_M_holds_52, e_M_holds_53, e_M_holds_54, e_M_holds_55, e_M_holds_58, e_M_holds_59, e_M_holds_62, e_M_holds_63, e_M_holds_64, e_M_holds_67, e_M_holds_69, e_M_holds_75, e_M_holds_76, e_M_holds_79, e_M_holds_81, e_M_holds_82, e_M_holds_83, e_M_holds_85, e_M_holds_87, e_M_holds_90, e_M_holds_91, e_M_holds_94, e_M_holds_96, e_M_holds_97, e_M_holds_98, e_M_holds_99, e_M_holds_102, e_M_holds_103, e_M_holds_106, e_M_holds_108, e_M_holds_109, e_M_holds_112, e_M_holds_113, e_M_holds_116, e_M_holds_117, e_M_holds_120, e_M_holds_121, e_M_holds_124, e_M_holds_126, e_M_holds_127, e_M_holds_128, e_M_holds_129, e_M_holds_132, e_M_holds_133, e_M_holds_136, e_M_holds_138, e_M_holds_139, e_M_holds_142, e_M_holds_143, e_M_holds_146, e_M_holds_147, e_M_holds_148, e_M_holds_153, e_M_holds_156, e_M_holds_159, e_M_holds_160, e_M_holds_162, e_M_holds_163, e_M_holds_166, e_M_holds_168, e_M_holds_171, e_M_holds_174, e_M_holds_175, e_M_holds_177, e_M_holds_178, e_M_holds_180, e_M_holds_181, e_M_holds_184, e_M_holds_185, e_M_holds_188, e_M_holds_189, e_M_holds_192, e_M_holds_193, e_M_holds_195, e_M_holds_197, e_M_holds_199, e_M_holds_200, e_M_holds_202, e_M_holds_203, e_M_holds_205, e_M_holds_206, e_M_holds_209, e_M_holds_211, e_M_holds_213, e_M_holds_216, e_M_holds_218, e_M_holds_220, e_M_holds_222, e_M_holds_223, e_M_holds_226, e_M_holds_227, e_M_holds_230, e_M_holds_231, e_M_holds_234, e_M_holds_236, e_M_holds_237, e_M_holds_240, e_M_holds_242, e_M_holds_244, e_M_holds_246, e_M_holds_247, e_M_holds_250, e_M_holds_251, e_M_holds_254, e_M_holds_255, e_M_holds_258, e_M_holds_260, e_M_holds_262, e_M_holds_264, e_M_holds_265, e_M_holds_268, e_M_holds_269, e_M_holds_272, e_M_holds_273, e_M_holds_274, e_M_holds_277, e_M_holds_280, e_M_holds_283, e_M_holds_284, e_M_holds_287, e_M_holds_288, e_M_holds_289, h1, h2, pm_opt_some, pm_opt_none, pm_opt_if, Bool.false_eq_true, Bool.not_false, Bool.not_true, if_false, if_true, true_and, and_true, true_or, or_true, not_true_eq_false, not_false_eq_true, q10, q00, q01, q11, pk_v, pk_i, pk_l, pk_r]
theorem S_M_holds {cm k dep fr len i0 : Nat} {hour warm found : Int32} {code : Nat → Int32} {f : Nat → Int32} (hw : warm = 0 ∨ warm = 1) (hcm : cm < 50) (e95 : I 95 cm = nI (fr + len)) (h5 : fr + len ≤ 500) (he : I 96 (fr + k) = encM (code (i0 + k))) (hk : k < len) (hdp : dpC code (i0 + k) (len - k) dep) (hb : bR found dep f) : ∃ (dep' : Nat) (f' : Nat → Int32), dpC code (i0 + (k + 1)) (len - (k + 1)) dep' ∧ bR (stepC hour warm found (code (i0 + k))) dep' f' ∧ ∀ (l6 l7 l8 : Option Value) (d : Nat) (Q : pm_O → Prop), ∃ (a6 a7 a8 : Option Value), pm_V X d 132 11 [some (.ref 82), some (.int (nI cm)), some (.int hour), some (.int warm), some (.int (nI dep)), some (.int (nI (fr + k))), l6, l7, l8] [] (pm_S0 ++ g, pm_up I 98 f, J) Q = pm_V X d 132 11 [some (.ref 82), some (.int (nI cm)), some (.int hour), some (.int warm), some (.int (nI dep')), some (.int (nI (fr + (k + 1)))), a6, a7, a8] [] (pm_S0 ++ g, pm_up I 98 f', J) Q := by
  have hd11 := hb.1
  rw [show len - k = (len - (k + 1)) + 1 by omega, dpC, Nat.add_assoc] at hdp
  rcases hdp with ⟨e, h1, h2⟩ | ⟨e, h1, h2⟩ | ⟨⟨m, hm, e⟩, h1, h2⟩
  · obtain ⟨dep, rfl⟩ : ∃ z, dep = z + 1 := ⟨dep - 1, by omega⟩
    rw [e] at he
    refine ⟨dep + 1, upd f dep (if f dep = 0 then 1 else 0), h2, ?_, fun l6 l7 l8 d Q => ⟨some (.int (-33)), l7, l8, ?_⟩⟩
    · rw [e]
      unfold stepC
      rw [if_pos rfl]
      exact bR_not hb
    · rw [H_head hcm e95 h5 (by omega) he, show encM (-1) = -33 from rfl, H_not (by omega), nI_1, Nat.add_assoc]
  · obtain ⟨dep, rfl⟩ : ∃ z, dep = z + 2 := ⟨dep - 2, by omega⟩
    have p0 : f (dep + 1) = if bt found 0 = true then 1 else 0 := by
      have := hb.2 0 (by omega)
      rw [show dep + 2 - 1 - 0 = dep + 1 by omega] at this
      exact this
    have p1 : f dep = if bt found 1 = true then 1 else 0 := by
      have := hb.2 1 (by omega)
      rw [show dep + 2 - 1 - 1 = dep by omega] at this
      exact this
    rcases e with e | e
    · rw [e] at he
      refine ⟨dep + 1, upd f dep (if (-38 : Int32) = -38 then (if f dep = 0 then 0 else if f (dep + 1) = 0 then 0 else 1) else (if ¬ f dep = 0 then 1 else if f (dep + 1) = 0 then 0 else 1)), h2, ?_, fun l6 l7 l8 d Q => ⟨some (.int (-38)), l7, l8, ?_⟩⟩
      rotate_left
      · rw [H_head hcm e95 h5 (by omega) he, show encM (-2) = -38 from rfl, H_bin (by omega) (Or.inl rfl), nI_1, Nat.add_assoc]
      · rw [e]
        unfold stepC
        rw [if_neg (by decide), if_pos rfl]
        refine bR_bin hb ?_ (fun j h0 hj => ?_)
        · rw [bt_and (by omega), p0, p1]
          cases bt found 0 <;> cases bt found 1 <;> simp
        · rw [bt_and hj]
          have : ¬ j = 0 := by omega
          simp [this]
    · rw [e] at he
      refine ⟨dep + 1, upd f dep (if (-124 : Int32) = -38 then (if f dep = 0 then 0 else if f (dep + 1) = 0 then 0 else 1) else (if ¬ f dep = 0 then 1 else if f (dep + 1) = 0 then 0 else 1)), h2, ?_, fun l6 l7 l8 d Q => ⟨some (.int (-124)), l7, l8, ?_⟩⟩
      rotate_left
      · rw [H_head hcm e95 h5 (by omega) he, show encM (-3) = -124 from rfl, H_bin (by omega) (Or.inr rfl), nI_1, Nat.add_assoc]
      · rw [e]
        unfold stepC
        rw [if_neg (by decide), if_neg (by decide), if_pos rfl]
        refine bR_bin hb ?_ (fun j h0 hj => ?_)
        · rw [bt_or (by omega), p0, p1]
          cases bt found 0 <;> cases bt found 1 <;> simp
        · rw [bt_or hj]
          have : ¬ j = 0 := by omega
          simp [this]
  · obtain ⟨⟨v1, v2, v3, v4, v5⟩, v6, v7, v8, v9⟩ := tst_all m hm
    rw [e] at he
    refine ⟨dep + 1, upd f dep (if isSoI (nI m) hour warm = true then 1 else 0), h2, ?_, fun l6 l7 l8 d Q => ⟨some (.int (encM (nI m))), some (.int (if 1000 ≤ encM (nI m) then (if 2000 ≤ encM (nI m) then warm else dayI hour) else hodI hour)), some (.int (encM (nI m) / 100 - encM (nI m) / 100 / 10 * 10)), ?_⟩⟩
    · rw [e]
      unfold stepC
      rw [if_neg v1, if_neg v2, if_neg v3]
      exact bR_psh hb h1
    · rw [H_head hcm e95 h5 (by omega) he, H_tst v4 v5, H_151 (by omega) hw, H_205 (by omega), nI_1, Nat.add_assoc]
      have et : (if 1000 ≤ encM (nI m) then (if 2000 ≤ encM (nI m) then warm else dayI hour) else hodI hour) = tvI (nI m / 300) hour warm := by
        unfold tvI
        by_cases q0 : nI m / 300 = 0
        · rw [if_neg (fun z => v6.mp z q0), q0, if_neg (by decide), if_pos rfl]
        · rw [if_pos (v6.mpr q0)]
          by_cases q1 : nI m / 300 = 1
          · rw [if_neg (fun z => (v7.mp z).2 q1), q1, if_pos rfl]
          · rw [if_pos (v7.mpr ⟨q0, q1⟩), if_neg q1, if_neg q0]
      rw [et, isSo_val, v8, v9]
end P31
