/-! class Ice: a cell at a time -/
def iceAt (S : List pm_S) (o a b c : Nat) : Prop := pm_isO S o 2 = true ∧ pm_rg S o 2 0 = some (.ref a) ∧ pm_rg S o 2 1 = some (.ref b) ∧ pm_rg S o 2 2 = some (.ref c) ∧ S[a]? = some (1, 16, []) ∧ S[b]? = some (1, 16, []) ∧ S[c]? = some (1, 16, []) ∧ a ≠ b ∧ a ≠ c ∧ b ≠ c
def pm_3 (I : Nat → Nat → Int32) (a b c j : Nat) (x y z : Int32) : Nat → Nat → Int32 := fun q k => if q = a ∧ k = j then x else if q = b ∧ k = j then y else if q = c ∧ k = j then z else I q k
def minI (x y : Int32) : Int32 := if y < x then y else x
def maxI (x y : Int32) : Int32 := if x < y then y else x
theorem minI_d (x y : Int32) : (if y < x then y else x) = minI x y := rfl
theorem maxI_d (x y : Int32) : (if x < y then y else x) = maxI x y := rfl
theorem pm_w_app (I : Nat → Nat → Int32) (a k : Nat) (v : Int32) (q i : Nat) : pm_w I a k v q i = if q = a ∧ i = k then v else I q i := by
  unfold pm_w pm_up upd
  by_cases h : q = a
  · subst h
    by_cases h2 : i = k
    · simp [h2]
    · simp [h2]
  · simp [h]
section P18
variable {X : pm_X} {d : Nat} {P Q : pm_O → Prop} {S : List pm_S} {I : Nat → Nat → Int32} {J : Nat → Nat → Int64} {o a b c j : Nat} {x y z v : Int32}
theorem p3_a : pm_3 I a b c j x y z a j = x := by simp [pm_3]
theorem p3_b (h : a ≠ b) : pm_3 I a b c j x y z b j = y := by simp [pm_3, h.symm]
theorem p3_c (h : a ≠ c) (h2 : b ≠ c) : pm_3 I a b c j x y z c j = z := by simp [pm_3, h.symm, h2.symm]
theorem p3_wa : pm_w (pm_3 I a b c j x y z) a j v = pm_3 I a b c j v y z := by
  funext q k
  rw [pm_w_app]
  unfold pm_3
  by_cases h : q = a ∧ k = j
  · simp [h]
  · simp [h]
theorem p3_wb (h : a ≠ b) : pm_w (pm_3 I a b c j x y z) b j v = pm_3 I a b c j x v z := by
  funext q k
  rw [pm_w_app]
  unfold pm_3
  by_cases h1 : q = b ∧ k = j
  · obtain ⟨rfl, rfl⟩ := h1
    simp [h.symm]
  · simp [h1]
theorem p3_wc (h : a ≠ c) (h2 : b ≠ c) : pm_w (pm_3 I a b c j x y z) c j v = pm_3 I a b c j x y v := by
  funext q k
  rw [pm_w_app]
  unfold pm_3
  by_cases h1 : q = c ∧ k = j
  · obtain ⟨rfl, rfl⟩ := h1
    simp [h.symm, h2.symm]
  · simp [h1]
theorem p3_id (h : a ≠ b) (h1 : a ≠ c) (h2 : b ≠ c) : pm_3 I a b c j (I a j) (I b j) (I c j) = I := by
  funext q k
  unfold pm_3
  split
  · rename_i e; rw [e.1, e.2]
  · split
    · rename_i e; rw [e.1, e.2]
    · split
      · rename_i e; rw [e.1, e.2]
      · rfl
theorem q20 : ((2 : Int32) = 0) = False := by decide
theorem K_I_thick (h : iceAt S o a b c) (hj : j < 16) : pm_cl X (d + 1) 66 [.ref o, .int (nI j)] (S, I, J) P = P (some (.int (I a j + I b j / 2)), (S, I, J)) := by
  obtain ⟨ho, r0, r1, r2, sa, sb, sc, hab, hac, hbc⟩ := h
  have hb := bad_nI (k := j) (n := 16) hj (by decide)
  have hc := nI_clamp (n := j) (by omega)
  refine K_of (k := 0) (fun d' => ?_)
  show pm_V X d' 66 0 [some (.ref o), some (.int (nI j))] [] (S, I, J) _
  simp only [e_I_thick_0, e_I_thick_1, e_I_thick_4, e_I_thick_5, e_I_thick_6, e_I_thick_7, e_I_thick_10, e_I_thick_11, e_I_thick_12, e_I_thick_13, e_I_thick_14, e_I_thick_15, r0, r1, ia_of sa, ia_of sb, hb, hc, pm_opt_if, pm_opt_some, Bool.false_eq_true, if_false, true_and, q20, not_false_eq_true]
theorem K_I_whiten (h : iceAt S o a b c) (hj : j < 16) : pm_cl X (d + 3) 68 [.ref o, .int (nI j)] (S, pm_3 I a b c j x y z, J) P = P (none, (S, pm_3 I a b c j x (if z = 0 then y else minI 999 (y + 1)) (if z = 0 then z else z - 1), J)) := by
  obtain ⟨ho, r0, r1, r2, sa, sb, sc, hab, hac, hbc⟩ := h
  have hb := bad_nI (k := j) (n := 16) hj (by decide)
  have hc := nI_clamp (n := j) (by omega)
  refine K_of (k := 2) (fun d' => ?_)
  have hd : 2 ≤ d' + 2 := by omega
  show pm_V X (d' + 2) 68 0 [some (.ref o), some (.int (nI j))] [] (S, pm_3 I a b c j x y z, J) _
  simp only [e_I_whiten_0, e_I_whiten_1, e_I_whiten_4, e_I_whiten_5, e_I_whiten_6, e_I_whiten_9, e_I_whiten_10, e_I_whiten_11, e_I_whiten_14, e_I_whiten_15, e_I_whiten_16, e_I_whiten_17, e_I_whiten_18, e_I_whiten_19, e_I_whiten_20, e_I_whiten_21, e_I_whiten_24, e_I_whiten_25, e_I_whiten_28, e_I_whiten_29, e_I_whiten_32, e_I_whiten_33, e_I_whiten_34, e_I_whiten_35, e_I_whiten_36, e_I_whiten_39, e_I_whiten_40, r0, r1, r2, ia_of sa, ia_of sb, ia_of sc, ow_of sa, ow_of sb, ow_of sc, hb, hc, hd, pm_opt_if, pm_opt_some, Bool.false_eq_true, if_false, true_and, minI_d, maxI_d, p3_a, p3_b hab, p3_c hac hbc, p3_wa, p3_wb hab, p3_wc hac hbc]
  by_cases q : z = 0
  · simp [q]
  · simp [q]
theorem maxI_20 (x : Int32) : ¬ maxI 20 x = 0 := by
  unfold maxI
  split
  · rename_i h
    intro e
    subst e
    exact absurd h (by decide)
  · decide
theorem K_I_grow {cold : Int32} (h : iceAt S o a b c) (hj : j < 16) : pm_cl X (d + 3) 69 [.ref o, .int (nI j), .int cold] (S, pm_3 I a b c j x y z, J) P = P (none, (S, pm_3 I a b c j (minI 999 (x + 20 * cold / maxI 20 (20 + x + y + 5 * z))) y z, J)) := by
  obtain ⟨ho, r0, r1, r2, sa, sb, sc, hab, hac, hbc⟩ := h
  have hb := bad_nI (k := j) (n := 16) hj (by decide)
  have hc := nI_clamp (n := j) (by omega)
  refine K_of (k := 2) (fun d' => ?_)
  have hd : 2 ≤ d' + 2 := by omega
  show pm_V X (d' + 2) 69 0 [some (.ref o), some (.int (nI j)), some (.int cold), none] [] (S, pm_3 I a b c j x y z, J) _
  simp only [e_I_grow_0, e_I_grow_2, e_I_grow_3, e_I_grow_6, e_I_grow_7, e_I_grow_8, e_I_grow_9, e_I_grow_10, e_I_grow_13, e_I_grow_14, e_I_grow_15, e_I_grow_16, e_I_grow_17, e_I_grow_18, e_I_grow_21, e_I_grow_22, e_I_grow_23, e_I_grow_24, e_I_grow_25, e_I_grow_26, e_I_grow_27, e_I_grow_30, e_I_grow_31, e_I_grow_34, e_I_grow_35, e_I_grow_38, e_I_grow_39, e_I_grow_40, e_I_grow_42, e_I_grow_43, e_I_grow_44, e_I_grow_46, e_I_grow_47, e_I_grow_50, e_I_grow_51, e_I_grow_52, e_I_grow_55, e_I_grow_56, r0, r1, r2, ia_of sa, ia_of sb, ia_of sc, ow_of sa, ow_of sb, ow_of sc, hb, hc, hd, pm_opt_if, pm_opt_some, Bool.false_eq_true, if_false, true_and, minI_d, maxI_d, p3_a, p3_b hab, p3_c hac hbc, p3_wa, p3_wb hab, p3_wc hac hbc, maxI_20, not_false_eq_true]
theorem K_I_melt {heat : Int32} (h : iceAt S o a b c) (hj : j < 16) : pm_cl X (d + 3) 70 [.ref o, .int (nI j), .int heat] (S, pm_3 I a b c j x y z, J) P = P (none, (S, pm_3 I a b c j (x - minI x (heat - minI z heat - minI y (heat - minI z heat))) (y - minI y (heat - minI z heat)) (z - minI z heat), J)) := by
  obtain ⟨ho, r0, r1, r2, sa, sb, sc, hab, hac, hbc⟩ := h
  have hb := bad_nI (k := j) (n := 16) hj (by decide)
  have hc := nI_clamp (n := j) (by omega)
  refine K_of (k := 2) (fun d' => ?_)
  have hd : 2 ≤ d' + 2 := by omega
  show pm_V X (d' + 2) 70 0 [some (.ref o), some (.int (nI j)), some (.int heat), none, none, none] [] (S, pm_3 I a b c j x y z, J) _
  simp only [e_I_melt_0, e_I_melt_1, e_I_melt_4, e_I_melt_5, e_I_melt_6, e_I_melt_7, e_I_melt_10, e_I_melt_11, e_I_melt_12, e_I_melt_15, e_I_melt_16, e_I_melt_17, e_I_melt_18, e_I_melt_19, e_I_melt_20, e_I_melt_23, e_I_melt_25, e_I_melt_26, e_I_melt_29, e_I_melt_30, e_I_melt_31, e_I_melt_32, e_I_melt_33, e_I_melt_34, e_I_melt_36, e_I_melt_37, e_I_melt_40, e_I_melt_42, e_I_melt_43, e_I_melt_46, e_I_melt_47, e_I_melt_48, e_I_melt_49, e_I_melt_50, e_I_melt_51, e_I_melt_52, e_I_melt_53, e_I_melt_56, e_I_melt_57, e_I_melt_58, e_I_melt_59, e_I_melt_61, e_I_melt_62, e_I_melt_63, e_I_melt_64, e_I_melt_67, e_I_melt_68, e_I_melt_69, e_I_melt_70, e_I_melt_72, e_I_melt_73, e_I_melt_74, r0, r1, r2, ia_of sa, ia_of sb, ia_of sc, ow_of sa, ow_of sb, ow_of sc, hb, hc, hd, pm_opt_if, pm_opt_some, Bool.false_eq_true, if_false, true_and, minI_d, maxI_d, p3_a, p3_b hab, p3_c hac hbc, p3_wa, p3_wb hab, p3_wc hac hbc]
theorem K_I_vanishAt (h : iceAt S o a b c) (hj : j < 16) : pm_cl X (d + 1) 71 [.ref o, .int (nI j)] (S, pm_3 I a b c j x y z, J) P = P (none, (S, pm_3 I a b c j 0 0 0, J)) := by
  obtain ⟨ho, r0, r1, r2, sa, sb, sc, hab, hac, hbc⟩ := h
  have hb := bad_nI (k := j) (n := 16) hj (by decide)
  have hc := nI_clamp (n := j) (by omega)
  refine K_of (k := 0) (fun d' => ?_)
  show pm_V X d' 71 0 [some (.ref o), some (.int (nI j))] [] (S, pm_3 I a b c j x y z, J) _
  simp only [e_I_vanishAt_0, e_I_vanishAt_1, e_I_vanishAt_4, e_I_vanishAt_5, e_I_vanishAt_6, e_I_vanishAt_7, e_I_vanishAt_8, e_I_vanishAt_11, e_I_vanishAt_12, e_I_vanishAt_13, e_I_vanishAt_14, e_I_vanishAt_15, e_I_vanishAt_18, e_I_vanishAt_19, e_I_vanishAt_20, e_I_vanishAt_21, r0, r1, r2, ia_of sa, ia_of sb, ia_of sc, ow_of sa, ow_of sb, ow_of sc, hb, hc, pm_opt_if, pm_opt_some, Bool.false_eq_true, if_false, true_and, p3_a, p3_b hab, p3_c hac hbc, p3_wa, p3_wb hab, p3_wc hac hbc]
/-- an hour in a cell -/
def whT (t : Int32 × Int32 × Int32) : Int32 × Int32 × Int32 := (t.1, if t.2.2 = 0 then t.2.1 else minI 999 (t.2.1 + 1), if t.2.2 = 0 then t.2.2 else t.2.2 - 1)
def grT (cold : Int32) (t : Int32 × Int32 × Int32) : Int32 × Int32 × Int32 := (minI 999 (t.1 + 20 * cold / maxI 20 (20 + t.1 + t.2.1 + 5 * t.2.2)), t.2.1, t.2.2)
def meT (heat : Int32) (t : Int32 × Int32 × Int32) : Int32 × Int32 × Int32 := (t.1 - minI t.1 (heat - minI t.2.2 heat - minI t.2.1 (heat - minI t.2.2 heat)), t.2.1 - minI t.2.1 (heat - minI t.2.2 heat), t.2.2 - minI t.2.2 heat)
def p1T (falls : Int32) (t : Int32 × Int32 × Int32) : Int32 × Int32 × Int32 := if t.1 = 0 ∧ t.2.1 = 0 then t else (t.1, t.2.1, minI 99 (t.2.2 + falls))
def p2T (kind cold : Int32) (t : Int32 × Int32 × Int32) : Int32 × Int32 × Int32 := if cold ≤ 0 then t else if kind = 2 ∨ kind = 5 then grT cold (whT t) else grT cold t
def p3T (cold : Int32) (t : Int32 × Int32 × Int32) : Int32 × Int32 × Int32 := if 0 ≤ cold then t else meT (-cold) t
def p4T (kind : Int32) (t : Int32 × Int32 × Int32) : Int32 × Int32 × Int32 := if kind = 1 then (t.1, t.2.1, 0) else t
def p5T (kind v cold : Int32) (t : Int32 × Int32 × Int32) : Int32 × Int32 × Int32 := if kind = 6 ∧ ¬ 2 * v ≤ cold then (0, 0, 0) else t
def passT (kind v cold falls : Int32) (t : Int32 × Int32 × Int32) : Int32 × Int32 × Int32 := p5T kind v cold (p4T kind (p3T cold (p2T kind cold (p1T falls t))))
def pm_t (I : Nat → Nat → Int32) (a b c j : Nat) (t : Int32 × Int32 × Int32) : Nat → Nat → Int32 := pm_3 I a b c j t.1 t.2.1 t.2.2
theorem pt_d : pm_3 I a b c j x y z = pm_t I a b c j (x, y, z) := rfl
theorem K_I_passT {kind cold falls : Int32} {t : Int32 × Int32 × Int32} (h : iceAt S o a b c) (hj : j < 16) : pm_cl X (d + 6) 67 [.ref o, .int (nI j), .int kind, .int v, .int cold, .int falls] (S, pm_t I a b c j t, J) P = P (none, (S, pm_t I a b c j (passT kind v cold falls t), J)) := by
  have H := h
  obtain ⟨ho, r0, r1, r2, sa, sb, sc, hab, hac, hbc⟩ := h
  have hb := bad_nI (k := j) (n := 16) hj (by decide)
  have hc := nI_clamp (n := j) (by omega)
  -- from its parts, the last first
  have s5 : ∀ (d' : Nat) (Q : pm_O → Prop) (l6 : Int32) (t : Int32 × Int32 × Int32), pm_V X (d' + 5) 67 102 [some (.ref o), some (.int (nI j)), some (.int kind), some (.int v), some (.int cold), some (.int falls), some (.int l6)] [] (S, pm_t I a b c j t, J) Q = Q (none, (S, pm_t I a b c j (p5T kind v cold t), J)) := by
    intro d' Q l6 t
    simp only [e_I_pass_0, e_I_pass_1, e_I_pass_4, e_I_pass_5, e_I_pass_6, e_I_pass_9, e_I_pass_10, e_I_pass_13, e_I_pass_14, e_I_pass_15, e_I_pass_18, e_I_pass_19, e_I_pass_22, e_I_pass_23, e_I_pass_25, e_I_pass_27, e_I_pass_30, e_I_pass_31, e_I_pass_34, e_I_pass_35, e_I_pass_37, e_I_pass_38, e_I_pass_41, e_I_pass_42, e_I_pass_43, e_I_pass_45, e_I_pass_46, e_I_pass_49, e_I_pass_50, e_I_pass_52, e_I_pass_55, e_I_pass_56, e_I_pass_57, e_I_pass_60, e_I_pass_61, e_I_pass_62, e_I_pass_65, e_I_pass_66, e_I_pass_67, e_I_pass_70, e_I_pass_71, e_I_pass_72, e_I_pass_74, e_I_pass_77, e_I_pass_79, e_I_pass_82, e_I_pass_83, e_I_pass_84, e_I_pass_86, e_I_pass_87, e_I_pass_90, e_I_pass_91, e_I_pass_92, e_I_pass_95, e_I_pass_96, e_I_pass_99, e_I_pass_100, e_I_pass_101, e_I_pass_102, e_I_pass_103, e_I_pass_105, e_I_pass_108, e_I_pass_110, e_I_pass_111, e_I_pass_112, e_I_pass_113, e_I_pass_116, e_I_pass_117, e_I_pass_118, e_I_pass_121, ho, true_and, pm_t, K_I_vanishAt H hj, pk_v]
    unfold p5T
    by_cases q1 : kind = 6
    · by_cases q2 : 2 * v ≤ cold
      · simp [q1, q2]
      · simp [q1, q2]
    · simp [q1]
  have s4 : ∀ (d' : Nat) (Q : pm_O → Prop) (l6 : Int32) (t : Int32 × Int32 × Int32), pm_V X (d' + 5) 67 90 [some (.ref o), some (.int (nI j)), some (.int kind), some (.int v), some (.int cold), some (.int falls), some (.int l6)] [] (S, pm_t I a b c j t, J) Q = Q (none, (S, pm_t I a b c j (p5T kind v cold (p4T kind t)), J)) := by
    intro d' Q l6 t
    simp only [e_I_pass_0, e_I_pass_1, e_I_pass_4, e_I_pass_5, e_I_pass_6, e_I_pass_9, e_I_pass_10, e_I_pass_13, e_I_pass_14, e_I_pass_15, e_I_pass_18, e_I_pass_19, e_I_pass_22, e_I_pass_23, e_I_pass_25, e_I_pass_27, e_I_pass_30, e_I_pass_31, e_I_pass_34, e_I_pass_35, e_I_pass_37, e_I_pass_38, e_I_pass_41, e_I_pass_42, e_I_pass_43, e_I_pass_45, e_I_pass_46, e_I_pass_49, e_I_pass_50, e_I_pass_52, e_I_pass_55, e_I_pass_56, e_I_pass_57, e_I_pass_60, e_I_pass_61, e_I_pass_62, e_I_pass_65, e_I_pass_66, e_I_pass_67, e_I_pass_70, e_I_pass_71, e_I_pass_72, e_I_pass_74, e_I_pass_77, e_I_pass_79, e_I_pass_82, e_I_pass_83, e_I_pass_84, e_I_pass_86, e_I_pass_87, e_I_pass_90, e_I_pass_91, e_I_pass_92, e_I_pass_95, e_I_pass_96, e_I_pass_99, e_I_pass_100, e_I_pass_101, e_I_pass_103, e_I_pass_105, e_I_pass_108, e_I_pass_110, e_I_pass_111, e_I_pass_112, e_I_pass_113, e_I_pass_116, e_I_pass_117, e_I_pass_118, e_I_pass_121, r2, pm_opt_some, ow_of sc, hb, hc, true_and, pm_t, p3_wc hac hbc]
    simp only [pt_d, s5]
    unfold p4T
    by_cases q1 : kind = 1
    · simp [q1]
    · simp [q1]
  have s3 : ∀ (d' : Nat) (Q : pm_O → Prop) (l6 : Int32) (t : Int32 × Int32 × Int32), pm_V X (d' + 5) 67 77 [some (.ref o), some (.int (nI j)), some (.int kind), some (.int v), some (.int cold), some (.int falls), some (.int l6)] [] (S, pm_t I a b c j t, J) Q = Q (none, (S, pm_t I a b c j (p5T kind v cold (p4T kind (p3T cold t))), J)) := by
    intro d' Q l6 t
    simp only [e_I_pass_0, e_I_pass_1, e_I_pass_4, e_I_pass_5, e_I_pass_6, e_I_pass_9, e_I_pass_10, e_I_pass_13, e_I_pass_14, e_I_pass_15, e_I_pass_18, e_I_pass_19, e_I_pass_22, e_I_pass_23, e_I_pass_25, e_I_pass_27, e_I_pass_30, e_I_pass_31, e_I_pass_34, e_I_pass_35, e_I_pass_37, e_I_pass_38, e_I_pass_41, e_I_pass_42, e_I_pass_43, e_I_pass_45, e_I_pass_46, e_I_pass_49, e_I_pass_50, e_I_pass_52, e_I_pass_55, e_I_pass_56, e_I_pass_57, e_I_pass_60, e_I_pass_61, e_I_pass_62, e_I_pass_65, e_I_pass_66, e_I_pass_67, e_I_pass_70, e_I_pass_71, e_I_pass_72, e_I_pass_74, e_I_pass_77, e_I_pass_79, e_I_pass_82, e_I_pass_83, e_I_pass_84, e_I_pass_86, e_I_pass_87, e_I_pass_91, e_I_pass_92, e_I_pass_95, e_I_pass_96, e_I_pass_99, e_I_pass_100, e_I_pass_101, e_I_pass_102, e_I_pass_103, e_I_pass_105, e_I_pass_108, e_I_pass_110, e_I_pass_111, e_I_pass_112, e_I_pass_113, e_I_pass_116, e_I_pass_117, e_I_pass_118, e_I_pass_121, ho, true_and, pm_t, K_I_melt H hj, pk_v]
    simp only [pt_d, s4]
    unfold p3T
    by_cases q1 : 0 ≤ cold
    · simp [q1]
    · simp [q1, meT]
  have s2 : ∀ (d' : Nat) (Q : pm_O → Prop) (l6 : Int32) (t : Int32 × Int32 × Int32), pm_V X (d' + 5) 67 50 [some (.ref o), some (.int (nI j)), some (.int kind), some (.int v), some (.int cold), some (.int falls), some (.int l6)] [] (S, pm_t I a b c j t, J) Q = Q (none, (S, pm_t I a b c j (p5T kind v cold (p4T kind (p3T cold (p2T kind cold t)))), J)) := by
    intro d' Q l6 t
    simp only [e_I_pass_0, e_I_pass_1, e_I_pass_4, e_I_pass_5, e_I_pass_6, e_I_pass_9, e_I_pass_10, e_I_pass_13, e_I_pass_14, e_I_pass_15, e_I_pass_18, e_I_pass_19, e_I_pass_22, e_I_pass_23, e_I_pass_25, e_I_pass_27, e_I_pass_30, e_I_pass_31, e_I_pass_34, e_I_pass_35, e_I_pass_37, e_I_pass_38, e_I_pass_41, e_I_pass_42, e_I_pass_43, e_I_pass_45, e_I_pass_46, e_I_pass_49, e_I_pass_50, e_I_pass_52, e_I_pass_55, e_I_pass_56, e_I_pass_57, e_I_pass_60, e_I_pass_61, e_I_pass_62, e_I_pass_65, e_I_pass_66, e_I_pass_67, e_I_pass_70, e_I_pass_71, e_I_pass_72, e_I_pass_74, e_I_pass_79, e_I_pass_82, e_I_pass_83, e_I_pass_84, e_I_pass_86, e_I_pass_87, e_I_pass_90, e_I_pass_91, e_I_pass_92, e_I_pass_95, e_I_pass_96, e_I_pass_99, e_I_pass_100, e_I_pass_101, e_I_pass_102, e_I_pass_103, e_I_pass_105, e_I_pass_108, e_I_pass_110, e_I_pass_111, e_I_pass_112, e_I_pass_113, e_I_pass_116, e_I_pass_117, e_I_pass_118, e_I_pass_121, ho, true_and, pm_t, K_I_grow H hj, K_I_whiten H hj, pk_v]
    simp only [pt_d, s3]
    unfold p2T
    by_cases q1 : cold ≤ 0
    · simp [q1]
    · by_cases q2 : kind = 2
      · simp [q1, q2, grT, whT]
      · by_cases q3 : kind = 5
        · simp [q1, q3, grT, whT]
        · simp [q1, q2, q3, grT]
  refine K_of (k := 5) (fun d' => ?_)
  have hd : 2 ≤ d' + 5 := by omega
  show pm_V X (d' + 5) 67 0 [some (.ref o), some (.int (nI j)), some (.int kind), some (.int v), some (.int cold), some (.int falls), none] [] (S, pm_t I a b c j t, J) _
  simp only [e_I_pass_0, e_I_pass_1, e_I_pass_4, e_I_pass_5, e_I_pass_6, e_I_pass_9, e_I_pass_10, e_I_pass_13, e_I_pass_14, e_I_pass_15, e_I_pass_18, e_I_pass_19, e_I_pass_22, e_I_pass_23, e_I_pass_25, e_I_pass_27, e_I_pass_30, e_I_pass_31, e_I_pass_34, e_I_pass_35, e_I_pass_37, e_I_pass_38, e_I_pass_41, e_I_pass_42, e_I_pass_43, e_I_pass_45, e_I_pass_46, e_I_pass_49, e_I_pass_52, e_I_pass_55, e_I_pass_56, e_I_pass_57, e_I_pass_60, e_I_pass_61, e_I_pass_62, e_I_pass_65, e_I_pass_66, e_I_pass_67, e_I_pass_70, e_I_pass_71, e_I_pass_72, e_I_pass_74, e_I_pass_77, e_I_pass_79, e_I_pass_82, e_I_pass_83, e_I_pass_84, e_I_pass_86, e_I_pass_87, e_I_pass_90, e_I_pass_91, e_I_pass_92, e_I_pass_95, e_I_pass_96, e_I_pass_99, e_I_pass_100, e_I_pass_101, e_I_pass_102, e_I_pass_103, e_I_pass_105, e_I_pass_108, e_I_pass_110, e_I_pass_111, e_I_pass_112, e_I_pass_113, e_I_pass_116, e_I_pass_117, e_I_pass_118, e_I_pass_121, r0, r1, r2, pm_opt_some, pm_opt_if, ia_of sa, ia_of sb, ia_of sc, ow_of sc, hb, hc, hd, Bool.false_eq_true, if_false, true_and, pm_t, p3_a, p3_b hab, p3_c hac hbc, p3_wc hac hbc, minI_d]
  simp only [pt_d, s2]
  unfold passT p1T
  by_cases q1 : t.1 = 0
  · by_cases q2 : t.2.1 = 0
    · obtain ⟨x, y, z⟩ := t
      simp only at q1 q2
      subst q1 q2
      simp [q10]
    · simp [q1, q2]
  · simp [q1]
end P18
