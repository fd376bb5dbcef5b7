/-! the parser: the class reads a condition -/
section P73
variable {X : pm_X} {d : Nat} {P Q : pm_O → Prop} {g : List pm_S} {S : List pm_S} {I I' I1 : Nat → Nat → Int32} {J J' : Nat → Nat → Int64} {a i n k p R w L F : Nat} {b c x y nu v : Int32} {t : List Nat} {C T : Nat → Int32}
/-- what reading with an answer r leaves of the number, the length and the code -/
def clE (L : Nat) (C : Nat → Int32) (r : pR) (L' : Nat) (C' : Nat → Int32) : Prop := r.1 = true → L' = L + r.2.2.length ∧ C' = apL C L r.2.2
theorem R_ts (h : RD g I R w n) (hp : p ≤ n) (hk : k ≤ 4) (hL : L ≤ p) : ∃ nu' L' C', clE L C (tsP (I 25) n p) L' C' ∧ ∀ (e : Nat) (Q : pm_O → Prop), pm_V X (e + 10) 100 75 [some (.ref R), some (.int (nI k)), none, none] [] (pm_S0 ++ g, CHr I R w p nu L C, J) Q = Q (some (.int (b2i (tsP (I 25) n p).1)), (pm_S0 ++ g, CHr I R w (tsP (I 25) n p).2.1 nu' L' C', J)) := by
  have ho := h.2.2.2.2.1
  have h2 := h.2.2.2.2.2.2.1
  have w1 := h.2.2.2.1.1
  have hn := h.2.2.2.2.2.2.2.2.1
  have k15 := fun (d : Nat) (P : pm_O → Prop) (p : Nat) (hp : p ≤ n) => K_R_takeOneOf (X := X) (d := d) (P := P) (J := J) (nu := nu) (L := L) (C := C) h isT_15 hp
  have k16 := fun (d : Nat) (P : pm_O → Prop) (p : Nat) (hp : p ≤ n) => K_R_takeOneOf (X := X) (d := d) (P := P) (J := J) (nu := nu) (L := L) (C := C) h isT_16 hp
  have e15 : ∀ c, ixL [104, 100, 119] c 0 = ltT c := fun c => rfl
  have e16 : ∀ c, ixL [60, 61, 62] c 0 = rlT c := fun c => rfl
  simp only [e15] at k15
  simp only [e16] at k16
  have b1 : b2i true = 1 := rfl
  have b0 : b2i false = 0 := rfl
  unfold tsP
  by_cases q1 : 0 ≤ ltT (nxT (I 25) n p)
  · have n1 : ¬ ltT (nxT (I 25) n p) < 0 := Int32.not_lt.mpr q1
    have hlt : p < n := nx_lt (T := I 25) (fun z => by rw [z, lt_m1] at q1; exact m1_np q1)
    by_cases q2 : 0 ≤ rlT (nxT (I 25) n (p + 1))
    · have n2 : ¬ rlT (nxT (I 25) n (p + 1)) < 0 := Int32.not_lt.mpr q2
      have hlt2 : p + 1 < n := nx_lt (T := I 25) (fun z => by rw [z, rl_m1] at q2; exact m1_np q2)
      by_cases q3 : 0 ≤ dgI (nxT (I 25) n (p + 2))
      · rw [if_pos q1, if_pos q2, if_pos q3]
        have bd := nu_bd q3
        refine ⟨nI (nuV (I 25) n (p + 2)), L + 1, upd C L (ltT (nxT (I 25) n p) * 300 + rlT (nxT (I 25) n (p + 1)) * 100 + nI (nuV (I 25) n (p + 2))), fun _ => ⟨rfl, rfl⟩, fun e Q => ?_⟩
        have ka := fun (d : Nat) (P : pm_O → Prop) (v : Int32) => K_W_add (X := X) (d := d) (P := P) (J := J) (p := nuP (I 25) n (p + 2)) (nu := nI (nuV (I 25) n (p + 2))) (L := L) (v := v) (C := C) h (by omega)
        have kn := fun (d : Nat) (P : pm_O → Prop) => K_R_takeNumber (X := X) (d := d) (P := P) (J := J) (nu := nu) (L := L) (C := C) h (show p + 2 ≤ n by omega)
        have en : CHr I R w (nuP (I 25) n (p + 2)) (nI (nuV (I 25) n (p + 2))) L C R 4 = nI (nuV (I 25) n (p + 2)) := CHr_n
        dsimp only
        rw [e_R_takeOne_75]
        simp only [e_R_takeOne_0, e_R_takeOne_1, e_R_takeOne_2, e_R_takeOne_5, e_R_takeOne_6, e_R_takeOne_8, e_R_takeOne_11, e_R_takeOne_14, e_R_takeOne_15, e_R_takeOne_16, e_R_takeOne_17, e_R_takeOne_18, e_R_takeOne_21, e_R_takeOne_24, e_R_takeOne_25, e_R_takeOne_26, e_R_takeOne_27, e_R_takeOne_30, e_R_takeOne_31, e_R_takeOne_34, e_R_takeOne_35, e_R_takeOne_36, e_R_takeOne_37, e_R_takeOne_38, e_R_takeOne_41, e_R_takeOne_42, e_R_takeOne_44, e_R_takeOne_47, e_R_takeOne_50, e_R_takeOne_51, e_R_takeOne_52, e_R_takeOne_53, e_R_takeOne_54, e_R_takeOne_57, e_R_takeOne_60, e_R_takeOne_61, e_R_takeOne_63, e_R_takeOne_66, e_R_takeOne_69, e_R_takeOne_70, e_R_takeOne_73, e_R_takeOne_74, e_R_takeOne_76, e_R_takeOne_78, e_R_takeOne_81, e_R_takeOne_82, e_R_takeOne_83, e_R_takeOne_86, e_R_takeOne_87, e_R_takeOne_88, e_R_takeOne_89, e_R_takeOne_91, e_R_takeOne_94, e_R_takeOne_95, e_R_takeOne_96, e_R_takeOne_99, e_R_takeOne_100, e_R_takeOne_103, e_R_takeOne_106, e_R_takeOne_107, e_R_takeOne_108, e_R_takeOne_109, e_R_takeOne_112, e_R_takeOne_113, e_R_takeOne_116, e_R_takeOne_117, e_R_takeOne_118, e_R_takeOne_120, e_R_takeOne_121, e_R_takeOne_122, e_R_takeOne_123, e_R_takeOne_126, e_R_takeOne_127, e_R_takeOne_130, e_R_takeOne_131, is_t isT_15, is_t isT_16, ho, h2, w1, k15 _ _ p hp, k16 _ _ (p + 1) (show p + 1 ≤ n by omega), q1, q2, q3, n1, n2, kn, ka, en, b1, pm_opt_some, pm_opt_none, pm_opt_if, Bool.false_eq_true, Bool.not_false, Bool.not_true, if_false, if_true, true_and, and_true, true_or, or_true, not_true_eq_false, not_false_eq_true, q10, q00, q01, q11, pk_v, pk_i, pk_l, pk_r]
      · rw [if_pos q1, if_pos q2, if_neg q3]
        refine ⟨nu, L, C, fun z => (by cases z), fun e Q => ?_⟩
        have kn := fun (d : Nat) (P : pm_O → Prop) => K_R_takeNumber (X := X) (d := d) (P := P) (J := J) (nu := nu) (L := L) (C := C) h (show p + 2 ≤ n by omega)
        dsimp only
        rw [e_R_takeOne_75]
        simp only [e_R_takeOne_0, e_R_takeOne_1, e_R_takeOne_2, e_R_takeOne_5, e_R_takeOne_6, e_R_takeOne_8, e_R_takeOne_11, e_R_takeOne_14, e_R_takeOne_15, e_R_takeOne_16, e_R_takeOne_17, e_R_takeOne_18, e_R_takeOne_21, e_R_takeOne_24, e_R_takeOne_25, e_R_takeOne_26, e_R_takeOne_27, e_R_takeOne_30, e_R_takeOne_31, e_R_takeOne_34, e_R_takeOne_35, e_R_takeOne_36, e_R_takeOne_37, e_R_takeOne_38, e_R_takeOne_41, e_R_takeOne_42, e_R_takeOne_44, e_R_takeOne_47, e_R_takeOne_50, e_R_takeOne_51, e_R_takeOne_52, e_R_takeOne_53, e_R_takeOne_54, e_R_takeOne_57, e_R_takeOne_60, e_R_takeOne_61, e_R_takeOne_63, e_R_takeOne_66, e_R_takeOne_69, e_R_takeOne_70, e_R_takeOne_73, e_R_takeOne_74, e_R_takeOne_76, e_R_takeOne_78, e_R_takeOne_81, e_R_takeOne_82, e_R_takeOne_83, e_R_takeOne_86, e_R_takeOne_87, e_R_takeOne_88, e_R_takeOne_89, e_R_takeOne_91, e_R_takeOne_94, e_R_takeOne_95, e_R_takeOne_96, e_R_takeOne_99, e_R_takeOne_100, e_R_takeOne_103, e_R_takeOne_106, e_R_takeOne_107, e_R_takeOne_108, e_R_takeOne_109, e_R_takeOne_112, e_R_takeOne_113, e_R_takeOne_116, e_R_takeOne_117, e_R_takeOne_118, e_R_takeOne_120, e_R_takeOne_121, e_R_takeOne_122, e_R_takeOne_123, e_R_takeOne_126, e_R_takeOne_127, e_R_takeOne_130, e_R_takeOne_131, is_t isT_15, is_t isT_16, ho, h2, w1, k15 _ _ p hp, k16 _ _ (p + 1) (show p + 1 ≤ n by omega), q1, q2, q3, n1, n2, kn, b0, pm_opt_some, pm_opt_none, pm_opt_if, Bool.false_eq_true, Bool.not_false, Bool.not_true, if_false, if_true, true_and, and_true, true_or, or_true, not_true_eq_false, not_false_eq_true, q10, q00, q01, q11, pk_v, pk_i, pk_l, pk_r]
    · have n2 : rlT (nxT (I 25) n (p + 1)) < 0 := Int32.not_le.mp q2
      rw [if_pos q1, if_neg q2]
      refine ⟨nu, L, C, fun z => (by cases z), fun e Q => ?_⟩
      dsimp only
      rw [e_R_takeOne_75]
      simp only [e_R_takeOne_0, e_R_takeOne_1, e_R_takeOne_2, e_R_takeOne_5, e_R_takeOne_6, e_R_takeOne_8, e_R_takeOne_11, e_R_takeOne_14, e_R_takeOne_15, e_R_takeOne_16, e_R_takeOne_17, e_R_takeOne_18, e_R_takeOne_21, e_R_takeOne_24, e_R_takeOne_25, e_R_takeOne_26, e_R_takeOne_27, e_R_takeOne_30, e_R_takeOne_31, e_R_takeOne_34, e_R_takeOne_35, e_R_takeOne_36, e_R_takeOne_37, e_R_takeOne_38, e_R_takeOne_41, e_R_takeOne_42, e_R_takeOne_44, e_R_takeOne_47, e_R_takeOne_50, e_R_takeOne_51, e_R_takeOne_52, e_R_takeOne_53, e_R_takeOne_54, e_R_takeOne_57, e_R_takeOne_60, e_R_takeOne_61, e_R_takeOne_63, e_R_takeOne_66, e_R_takeOne_69, e_R_takeOne_70, e_R_takeOne_73, e_R_takeOne_74, e_R_takeOne_76, e_R_takeOne_78, e_R_takeOne_81, e_R_takeOne_82, e_R_takeOne_83, e_R_takeOne_86, e_R_takeOne_87, e_R_takeOne_88, e_R_takeOne_89, e_R_takeOne_91, e_R_takeOne_94, e_R_takeOne_95, e_R_takeOne_96, e_R_takeOne_100, e_R_takeOne_103, e_R_takeOne_106, e_R_takeOne_107, e_R_takeOne_108, e_R_takeOne_109, e_R_takeOne_112, e_R_takeOne_113, e_R_takeOne_116, e_R_takeOne_117, e_R_takeOne_118, e_R_takeOne_120, e_R_takeOne_121, e_R_takeOne_122, e_R_takeOne_123, e_R_takeOne_126, e_R_takeOne_127, e_R_takeOne_130, e_R_takeOne_131, is_t isT_15, is_t isT_16, ho, h2, w1, k15 _ _ p hp, k16 _ _ (p + 1) (show p + 1 ≤ n by omega), q1, q2, n1, n2, b0, pm_opt_some, pm_opt_none, pm_opt_if, Bool.false_eq_true, Bool.not_false, Bool.not_true, if_false, if_true, true_and, and_true, true_or, or_true, not_true_eq_false, not_false_eq_true, q10, q00, q01, q11, pk_v, pk_i, pk_l, pk_r]
  · have n1 : ltT (nxT (I 25) n p) < 0 := Int32.not_le.mp q1
    rw [if_neg q1]
    refine ⟨nu, L, C, fun z => (by cases z), fun e Q => ?_⟩
    dsimp only
    rw [e_R_takeOne_75]
    simp only [e_R_takeOne_0, e_R_takeOne_1, e_R_takeOne_2, e_R_takeOne_5, e_R_takeOne_6, e_R_takeOne_8, e_R_takeOne_11, e_R_takeOne_14, e_R_takeOne_15, e_R_takeOne_16, e_R_takeOne_17, e_R_takeOne_18, e_R_takeOne_21, e_R_takeOne_24, e_R_takeOne_25, e_R_takeOne_26, e_R_takeOne_27, e_R_takeOne_30, e_R_takeOne_31, e_R_takeOne_34, e_R_takeOne_35, e_R_takeOne_36, e_R_takeOne_37, e_R_takeOne_38, e_R_takeOne_41, e_R_takeOne_42, e_R_takeOne_44, e_R_takeOne_47, e_R_takeOne_50, e_R_takeOne_51, e_R_takeOne_52, e_R_takeOne_53, e_R_takeOne_54, e_R_takeOne_57, e_R_takeOne_60, e_R_takeOne_61, e_R_takeOne_63, e_R_takeOne_66, e_R_takeOne_69, e_R_takeOne_70, e_R_takeOne_73, e_R_takeOne_74, e_R_takeOne_76, e_R_takeOne_78, e_R_takeOne_81, e_R_takeOne_82, e_R_takeOne_83, e_R_takeOne_86, e_R_takeOne_87, e_R_takeOne_89, e_R_takeOne_91, e_R_takeOne_94, e_R_takeOne_95, e_R_takeOne_96, e_R_takeOne_99, e_R_takeOne_100, e_R_takeOne_103, e_R_takeOne_106, e_R_takeOne_107, e_R_takeOne_108, e_R_takeOne_109, e_R_takeOne_112, e_R_takeOne_113, e_R_takeOne_116, e_R_takeOne_117, e_R_takeOne_118, e_R_takeOne_120, e_R_takeOne_121, e_R_takeOne_122, e_R_takeOne_123, e_R_takeOne_126, e_R_takeOne_127, e_R_takeOne_130, e_R_takeOne_131, is_t isT_15, ho, h2, w1, k15 _ _ p hp, q1, n1, b0, pm_opt_some, pm_opt_none, pm_opt_if, Bool.false_eq_true, Bool.not_false, Bool.not_true, if_false, if_true, true_and, and_true, true_or, or_true, not_true_eq_false, not_false_eq_true, q10, q00, q01, q11, pk_v, pk_i, pk_l, pk_r]
/-- what a method of the reader does -/
def clM (X : pm_X) (J : Nat → Nat → Int64) (g : List pm_S) (I : Nat → Nat → Int32) (R w k m H : Nat) (r : pR) (p : Nat) (nu : Int32) (L : Nat) (C : Nat → Int32) : Prop := ∃ nu' L' C', clE L C r L' C' ∧ ∀ (D : Nat) (P : pm_O → Prop), H ≤ D → pm_cl X D m [.ref R, .int (nI k)] (pm_S0 ++ g, CHr I R w p nu L C, J) P = P (some (.int (b2i r.1)), (pm_S0 ++ g, CHr I R w r.2.1 nu' L' C', J))
def clL (X : pm_X) (J : Nat → Nat → Int64) (g : List pm_S) (I : Nat → Nat → Int32) (R w k m H : Nat) (r : pR) (p : Nat) (nu : Int32) (L : Nat) (C : Nat → Int32) : Prop := ∀ more, more ≤ p → more ≤ 100 → ∃ nu' L' C', clE L C r L' C' ∧ ∀ (D : Nat) (Q : pm_O → Prop), H ≤ D → pm_V X D m 12 [some (.ref R), some (.int (nI k)), some (.int (nI more))] [] (pm_S0 ++ g, CHr I R w p nu L C, J) Q = Q (some (.int (b2i r.1)), (pm_S0 ++ g, CHr I R w r.2.1 nu' L' C', J))
theorem apL_1 (C : Nat → Int32) (L : Nat) (l : List Int32) (v : Int32) : upd (apL C L l) (L + l.length) v = apL C L (l ++ [v]) := by
  rw [apL_app]
  rfl
theorem c33 : ¬ (33 : Int32) = -1 := by decide
theorem c40 : ¬ (40 : Int32) = -1 := by decide
theorem c41 : ¬ (41 : Int32) = -1 := by decide
theorem c38 : ¬ (38 : Int32) = -1 := by decide
theorem c124 : ¬ (124 : Int32) = -1 := by decide
theorem c3340 : ¬ (40 : Int32) = 33 := by decide
theorem b2_t : b2i true = 1 := rfl
theorem b2_f : b2i false = 0 := rfl
theorem pr_f {r : pR} (h : r.1 = false) : r = (false, r.2.1, r.2.2) := by
  obtain ⟨a, b, c⟩ := r
  simp only at h
  subst h
  rfl
theorem D_of {D H k : Nat} (h : H ≤ D) (hk : k ≤ H) : ∃ e, D = e + k := ⟨D - k, by omega⟩
theorem R_cond (h : RD g I R w n) : ∀ (F md k p : Nat) (nu : Int32) (L : Nat) (C : Nat → Int32), md < 5 → muP n md p ≤ F → k ≤ 4 → p ≤ n → L ≤ p → (md = 0 → clM X J g I R w k 100 (11 + 3 * (4 - k)) (pP (I 25) n F 0 k p) p nu L C) ∧ (md = 4 → clM X J g I R w k 99 (12 + 3 * (4 - k)) (pP (I 25) n F 4 k p) p nu L C) ∧ (md = 3 → clM X J g I R w k 98 (13 + 3 * (4 - k)) (pP (I 25) n F 3 k p) p nu L C) ∧ (md = 1 → clL X J g I R w k 99 (11 + 3 * (4 - k)) (pP (I 25) n F 1 k p) p nu L C) ∧ (md = 2 → clL X J g I R w k 98 (12 + 3 * (4 - k)) (pP (I 25) n F 2 k p) p nu L C) := by
  have ho := h.2.2.2.2.1
  have h2 := h.2.2.2.2.2.2.1
  have w1 := h.2.2.2.1.1
  have hn := h.2.2.2.2.2.2.2.2.1
  intro F
  induction F with
  | zero =>
    intro md k p nu L C _ hm _ _ _
    unfold muP at hm
    exfalso
    split at hm
    · omega
    · split at hm
      · omega
      · omega
  | succ F ih =>
    intro md k p nu L C hmd hm hk hp hL
    match md, hmd with
    | 0, _ =>
      refine ⟨fun _ => ?_, fun z => by omega, fun z => by omega, fun z => by omega, fun z => by omega⟩
      have hm' : 4 * (n - p) + 1 ≤ F + 1 := hm
      rw [pP_0]
      have kt := fun (d : Nat) (P : pm_O → Prop) (c : Int32) (hc : ¬ c = -1) => K_R_take (X := X) (d := d) (P := P) (J := J) (nu := nu) (L := L) (C := C) h hp hc
      by_cases q1 : k < 4 ∧ nxT (I 25) n p = 33
      · have hlt := nx_c q1.2 (by decide)
        have hk4 : (4 ≤ nI k) = False := by
          rw [show (4 : Int32) = nI 4 from rfl, nI_le_l (by omega) (by omega)]
          exact eq_false (by omega)
        obtain ⟨nu1, L1, C1, c1, r1⟩ := (ih 0 (k + 1) (p + 1) nu L C (by decide) (by show 4 * (n - (p + 1)) + 1 ≤ F; omega) (by omega) (by omega) (by omega)).1 rfl
        have le := pP_le (T := I 25) F 0 (k + 1) (p + 1) (by decide) (show p + 1 ≤ n by omega)
        rw [if_pos q1]
        generalize pP (I 25) n F 0 (k + 1) (p + 1) = r at c1 r1 le ⊢
        obtain ⟨le1, le2, le3⟩ := le
        cases er : r.1 with
        | true =>
          obtain ⟨f1, f2⟩ := c1 er
          have le4 := le3 er
          rw [pBd_t er]
          refine ⟨nu1, L1 + 1, upd C1 L1 (-1), fun _ => ⟨?_, ?_⟩, fun D P hD => propext (pm_cl_of (k := 10 + 3 * (4 - k)) (by omega) (fun d' => ?_) P)⟩
          · rw [f1]
            show _ = L + (r.2.2 ++ [-1]).length
            rw [List.length_append, List.length_singleton, Nat.add_assoc]
          · rw [f1, f2]
            exact apL_1 _ _ _ _
          · have ka := fun (d : Nat) (P : pm_O → Prop) (v : Int32) => K_W_add (X := X) (d := d) (P := P) (J := J) (p := r.2.1) (nu := nu1) (L := L1) (v := v) (C := C1) h (by omega)
            have rr := fun (P : pm_O → Prop) => r1 (d' + (10 + 3 * (4 - k))) P (by omega)
            rw [er] at rr
            show pm_V X (d' + (10 + 3 * (4 - k))) 100 0 [some (.ref R), some (.int (nI k)), none, none] [] (pm_S0 ++ g, CHr I R w p nu L C, J) _
            obtain ⟨e, he⟩ := D_of (D := d' + (10 + 3 * (4 - k))) (H := 10) (k := 10) (by omega) (by omega)
            rw [he] at rr ⊢
            simp only [e_R_takeOne_0, e_R_takeOne_1, e_R_takeOne_2, e_R_takeOne_5, e_R_takeOne_6, e_R_takeOne_8, e_R_takeOne_11, e_R_takeOne_14, e_R_takeOne_15, e_R_takeOne_16, e_R_takeOne_17, e_R_takeOne_18, e_R_takeOne_21, e_R_takeOne_24, e_R_takeOne_25, e_R_takeOne_26, e_R_takeOne_27, e_R_takeOne_30, e_R_takeOne_31, e_R_takeOne_34, e_R_takeOne_35, e_R_takeOne_37, e_R_takeOne_38, e_R_takeOne_41, e_R_takeOne_42, e_R_takeOne_44, e_R_takeOne_47, e_R_takeOne_50, e_R_takeOne_51, e_R_takeOne_52, e_R_takeOne_53, e_R_takeOne_54, e_R_takeOne_57, e_R_takeOne_60, e_R_takeOne_61, e_R_takeOne_63, e_R_takeOne_66, e_R_takeOne_69, e_R_takeOne_70, e_R_takeOne_73, e_R_takeOne_74, e_R_takeOne_75, e_R_takeOne_76, e_R_takeOne_78, e_R_takeOne_81, e_R_takeOne_82, e_R_takeOne_83, e_R_takeOne_86, e_R_takeOne_87, e_R_takeOne_88, e_R_takeOne_89, e_R_takeOne_91, e_R_takeOne_94, e_R_takeOne_95, e_R_takeOne_96, e_R_takeOne_99, e_R_takeOne_100, e_R_takeOne_103, e_R_takeOne_106, e_R_takeOne_107, e_R_takeOne_108, e_R_takeOne_109, e_R_takeOne_112, e_R_takeOne_113, e_R_takeOne_116, e_R_takeOne_117, e_R_takeOne_118, e_R_takeOne_120, e_R_takeOne_121, e_R_takeOne_122, e_R_takeOne_123, e_R_takeOne_126, e_R_takeOne_127, e_R_takeOne_130, e_R_takeOne_131, hk4, ho, h2, w1, kt _ _ 33 c33, q1.2, nI_1, rr, ka, b2_t, pm_opt_some, pm_opt_none, pm_opt_if, Bool.false_eq_true, Bool.not_false, Bool.not_true, if_false, if_true, true_and, and_true, true_or, or_true, not_true_eq_false, not_false_eq_true, q10, q00, q01, q11, pk_v, pk_i, pk_l, pk_r]
        | false =>
          rw [pBd_f er]
          refine ⟨nu1, L1, C1, fun z => (by rw [er] at z; cases z), fun D P hD => propext (pm_cl_of (k := 10 + 3 * (4 - k)) (by omega) (fun d' => ?_) P)⟩
          have rr := fun (P : pm_O → Prop) => r1 (d' + (10 + 3 * (4 - k))) P (by omega)
          rw [er] at rr
          rw [er]
          show pm_V X (d' + (10 + 3 * (4 - k))) 100 0 [some (.ref R), some (.int (nI k)), none, none] [] (pm_S0 ++ g, CHr I R w p nu L C, J) _
          obtain ⟨e, he⟩ := D_of (D := d' + (10 + 3 * (4 - k))) (H := 10) (k := 10) (by omega) (by omega)
          rw [he] at rr ⊢
          simp only [e_R_takeOne_0, e_R_takeOne_1, e_R_takeOne_2, e_R_takeOne_5, e_R_takeOne_6, e_R_takeOne_8, e_R_takeOne_11, e_R_takeOne_14, e_R_takeOne_15, e_R_takeOne_16, e_R_takeOne_17, e_R_takeOne_18, e_R_takeOne_21, e_R_takeOne_24, e_R_takeOne_25, e_R_takeOne_27, e_R_takeOne_30, e_R_takeOne_31, e_R_takeOne_34, e_R_takeOne_35, e_R_takeOne_37, e_R_takeOne_38, e_R_takeOne_41, e_R_takeOne_42, e_R_takeOne_44, e_R_takeOne_47, e_R_takeOne_50, e_R_takeOne_51, e_R_takeOne_52, e_R_takeOne_53, e_R_takeOne_54, e_R_takeOne_57, e_R_takeOne_60, e_R_takeOne_61, e_R_takeOne_63, e_R_takeOne_66, e_R_takeOne_69, e_R_takeOne_70, e_R_takeOne_73, e_R_takeOne_74, e_R_takeOne_75, e_R_takeOne_76, e_R_takeOne_78, e_R_takeOne_81, e_R_takeOne_82, e_R_takeOne_83, e_R_takeOne_86, e_R_takeOne_87, e_R_takeOne_88, e_R_takeOne_89, e_R_takeOne_91, e_R_takeOne_94, e_R_takeOne_95, e_R_takeOne_96, e_R_takeOne_99, e_R_takeOne_100, e_R_takeOne_103, e_R_takeOne_106, e_R_takeOne_107, e_R_takeOne_108, e_R_takeOne_109, e_R_takeOne_112, e_R_takeOne_113, e_R_takeOne_116, e_R_takeOne_117, e_R_takeOne_118, e_R_takeOne_120, e_R_takeOne_121, e_R_takeOne_122, e_R_takeOne_123, e_R_takeOne_126, e_R_takeOne_127, e_R_takeOne_130, e_R_takeOne_131, hk4, ho, h2, w1, kt _ _ 33 c33, q1.2, nI_1, rr, b2_f, pm_opt_some, pm_opt_none, pm_opt_if, Bool.false_eq_true, Bool.not_false, Bool.not_true, if_false, if_true, true_and, and_true, true_or, or_true, not_true_eq_false, not_false_eq_true, q10, q00, q01, q11, pk_v, pk_i, pk_l, pk_r]
      · rw [if_neg q1]
        by_cases q2 : k < 4 ∧ nxT (I 25) n p = 40
        · have hlt := nx_c q2.2 (by decide)
          have hk4 : (4 ≤ nI k) = False := by
            rw [show (4 : Int32) = nI 4 from rfl, nI_le_l (by omega) (by omega)]
            exact eq_false (by omega)
          obtain ⟨nu1, L1, C1, c1, r1⟩ := (ih 3 (k + 1) (p + 1) nu L C (by decide) (by show 4 * (n - (p + 1)) + 4 ≤ F; omega) (by omega) (by omega) (by omega)).2.2.1 rfl
          have le := pP_le (T := I 25) F 3 (k + 1) (p + 1) (by decide) (show p + 1 ≤ n by omega)
          rw [if_pos q2]
          generalize pP (I 25) n F 3 (k + 1) (p + 1) = r at c1 r1 le ⊢
          obtain ⟨le1, le2, le3⟩ := le
          cases er : r.1 with
          | true =>
            obtain ⟨f1, f2⟩ := c1 er
            rw [pBd_t er]
            have kt2 := fun (d : Nat) (P : pm_O → Prop) => K_R_take (X := X) (d := d) (P := P) (J := J) (nu := nu1) (L := L1) (C := C1) h le2 c41
            by_cases q3 : nxT (I 25) n r.2.1 = 41
            · rw [if_pos q3]
              refine ⟨nu1, L1, C1, fun _ => ⟨f1, f2⟩, fun D P hD => propext (pm_cl_of (k := 10 + 3 * (4 - k)) (by omega) (fun d' => ?_) P)⟩
              have rr := fun (P : pm_O → Prop) => r1 (d' + (10 + 3 * (4 - k))) P (by omega)
              rw [er] at rr
              dsimp only
              show pm_V X (d' + (10 + 3 * (4 - k))) 100 0 [some (.ref R), some (.int (nI k)), none, none] [] (pm_S0 ++ g, CHr I R w p nu L C, J) _
              obtain ⟨e, he⟩ := D_of (D := d' + (10 + 3 * (4 - k))) (H := 10) (k := 10) (by omega) (by omega)
              rw [he] at rr ⊢
              simp only [e_R_takeOne_0, e_R_takeOne_1, e_R_takeOne_2, e_R_takeOne_5, e_R_takeOne_6, e_R_takeOne_8, e_R_takeOne_11, e_R_takeOne_15, e_R_takeOne_16, e_R_takeOne_17, e_R_takeOne_18, e_R_takeOne_21, e_R_takeOne_24, e_R_takeOne_25, e_R_takeOne_26, e_R_takeOne_27, e_R_takeOne_30, e_R_takeOne_31, e_R_takeOne_34, e_R_takeOne_35, e_R_takeOne_36, e_R_takeOne_37, e_R_takeOne_38, e_R_takeOne_41, e_R_takeOne_42, e_R_takeOne_44, e_R_takeOne_47, e_R_takeOne_50, e_R_takeOne_51, e_R_takeOne_52, e_R_takeOne_53, e_R_takeOne_54, e_R_takeOne_57, e_R_takeOne_60, e_R_takeOne_61, e_R_takeOne_63, e_R_takeOne_66, e_R_takeOne_69, e_R_takeOne_70, e_R_takeOne_73, e_R_takeOne_74, e_R_takeOne_76, e_R_takeOne_78, e_R_takeOne_81, e_R_takeOne_82, e_R_takeOne_83, e_R_takeOne_86, e_R_takeOne_87, e_R_takeOne_88, e_R_takeOne_89, e_R_takeOne_91, e_R_takeOne_94, e_R_takeOne_95, e_R_takeOne_96, e_R_takeOne_99, e_R_takeOne_100, e_R_takeOne_103, e_R_takeOne_106, e_R_takeOne_107, e_R_takeOne_108, e_R_takeOne_109, e_R_takeOne_112, e_R_takeOne_113, e_R_takeOne_116, e_R_takeOne_117, e_R_takeOne_118, e_R_takeOne_120, e_R_takeOne_121, e_R_takeOne_122, e_R_takeOne_123, e_R_takeOne_126, e_R_takeOne_127, e_R_takeOne_130, e_R_takeOne_131, hk4, ho, h2, w1, kt _ _ 33 c33, kt _ _ 40 c40, q2.2, c3340, nI_1, rr, kt2, q3, b2_t, pm_opt_some, pm_opt_none, pm_opt_if, Bool.false_eq_true, Bool.not_false, Bool.not_true, if_false, if_true, true_and, and_true, true_or, or_true, not_true_eq_false, not_false_eq_true, q10, q00, q01, q11, pk_v, pk_i, pk_l, pk_r]
            · rw [if_neg q3]
              refine ⟨nu1, L1, C1, fun z => (by cases z), fun D P hD => propext (pm_cl_of (k := 10 + 3 * (4 - k)) (by omega) (fun d' => ?_) P)⟩
              have rr := fun (P : pm_O → Prop) => r1 (d' + (10 + 3 * (4 - k))) P (by omega)
              rw [er] at rr
              dsimp only
              show pm_V X (d' + (10 + 3 * (4 - k))) 100 0 [some (.ref R), some (.int (nI k)), none, none] [] (pm_S0 ++ g, CHr I R w p nu L C, J) _
              obtain ⟨e, he⟩ := D_of (D := d' + (10 + 3 * (4 - k))) (H := 10) (k := 10) (by omega) (by omega)
              rw [he] at rr ⊢
              simp only [e_R_takeOne_0, e_R_takeOne_1, e_R_takeOne_2, e_R_takeOne_5, e_R_takeOne_6, e_R_takeOne_8, e_R_takeOne_11, e_R_takeOne_15, e_R_takeOne_16, e_R_takeOne_17, e_R_takeOne_18, e_R_takeOne_21, e_R_takeOne_24, e_R_takeOne_25, e_R_takeOne_26, e_R_takeOne_27, e_R_takeOne_30, e_R_takeOne_31, e_R_takeOne_34, e_R_takeOne_35, e_R_takeOne_36, e_R_takeOne_37, e_R_takeOne_38, e_R_takeOne_41, e_R_takeOne_42, e_R_takeOne_44, e_R_takeOne_47, e_R_takeOne_50, e_R_takeOne_51, e_R_takeOne_52, e_R_takeOne_53, e_R_takeOne_54, e_R_takeOne_57, e_R_takeOne_60, e_R_takeOne_61, e_R_takeOne_63, e_R_takeOne_66, e_R_takeOne_69, e_R_takeOne_70, e_R_takeOne_73, e_R_takeOne_74, e_R_takeOne_76, e_R_takeOne_78, e_R_takeOne_81, e_R_takeOne_82, e_R_takeOne_83, e_R_takeOne_86, e_R_takeOne_87, e_R_takeOne_88, e_R_takeOne_89, e_R_takeOne_91, e_R_takeOne_94, e_R_takeOne_95, e_R_takeOne_96, e_R_takeOne_99, e_R_takeOne_100, e_R_takeOne_103, e_R_takeOne_106, e_R_takeOne_107, e_R_takeOne_108, e_R_takeOne_109, e_R_takeOne_112, e_R_takeOne_113, e_R_takeOne_116, e_R_takeOne_117, e_R_takeOne_118, e_R_takeOne_120, e_R_takeOne_121, e_R_takeOne_122, e_R_takeOne_123, e_R_takeOne_126, e_R_takeOne_127, e_R_takeOne_130, e_R_takeOne_131, hk4, ho, h2, w1, kt _ _ 33 c33, kt _ _ 40 c40, q2.2, c3340, nI_1, rr, kt2, q3, b2_t, b2_f, pm_opt_some, pm_opt_none, pm_opt_if, Bool.false_eq_true, Bool.not_false, Bool.not_true, if_false, if_true, true_and, and_true, true_or, or_true, not_true_eq_false, not_false_eq_true, q10, q00, q01, q11, pk_v, pk_i, pk_l, pk_r]
          | false =>
            rw [pBd_f er]
            refine ⟨nu1, L1, C1, fun z => (by rw [er] at z; cases z), fun D P hD => propext (pm_cl_of (k := 10 + 3 * (4 - k)) (by omega) (fun d' => ?_) P)⟩
            have rr := fun (P : pm_O → Prop) => r1 (d' + (10 + 3 * (4 - k))) P (by omega)
            rw [er] at rr
            rw [er]
            show pm_V X (d' + (10 + 3 * (4 - k))) 100 0 [some (.ref R), some (.int (nI k)), none, none] [] (pm_S0 ++ g, CHr I R w p nu L C, J) _
            obtain ⟨e, he⟩ := D_of (D := d' + (10 + 3 * (4 - k))) (H := 10) (k := 10) (by omega) (by omega)
            rw [he] at rr ⊢
            simp only [e_R_takeOne_0, e_R_takeOne_1, e_R_takeOne_2, e_R_takeOne_5, e_R_takeOne_6, e_R_takeOne_8, e_R_takeOne_11, e_R_takeOne_15, e_R_takeOne_16, e_R_takeOne_17, e_R_takeOne_18, e_R_takeOne_21, e_R_takeOne_24, e_R_takeOne_25, e_R_takeOne_26, e_R_takeOne_27, e_R_takeOne_30, e_R_takeOne_31, e_R_takeOne_34, e_R_takeOne_35, e_R_takeOne_36, e_R_takeOne_37, e_R_takeOne_38, e_R_takeOne_41, e_R_takeOne_42, e_R_takeOne_44, e_R_takeOne_47, e_R_takeOne_50, e_R_takeOne_51, e_R_takeOne_52, e_R_takeOne_53, e_R_takeOne_54, e_R_takeOne_57, e_R_takeOne_61, e_R_takeOne_63, e_R_takeOne_66, e_R_takeOne_69, e_R_takeOne_70, e_R_takeOne_73, e_R_takeOne_74, e_R_takeOne_76, e_R_takeOne_78, e_R_takeOne_81, e_R_takeOne_82, e_R_takeOne_83, e_R_takeOne_86, e_R_takeOne_87, e_R_takeOne_88, e_R_takeOne_89, e_R_takeOne_91, e_R_takeOne_94, e_R_takeOne_95, e_R_takeOne_96, e_R_takeOne_99, e_R_takeOne_100, e_R_takeOne_103, e_R_takeOne_106, e_R_takeOne_107, e_R_takeOne_108, e_R_takeOne_109, e_R_takeOne_112, e_R_takeOne_113, e_R_takeOne_116, e_R_takeOne_117, e_R_takeOne_118, e_R_takeOne_120, e_R_takeOne_121, e_R_takeOne_122, e_R_takeOne_123, e_R_takeOne_126, e_R_takeOne_127, e_R_takeOne_130, e_R_takeOne_131, hk4, ho, h2, w1, kt _ _ 33 c33, kt _ _ 40 c40, q2.2, c3340, nI_1, rr, b2_f, pm_opt_some, pm_opt_none, pm_opt_if, Bool.false_eq_true, Bool.not_false, Bool.not_true, if_false, if_true, true_and, and_true, true_or, or_true, not_true_eq_false, not_false_eq_true, q10, q00, q01, q11, pk_v, pk_i, pk_l, pk_r]
        · rw [if_neg q2]
          obtain ⟨nu1, L1, C1, c1, r1⟩ := R_ts (X := X) (J := J) (k := k) (nu := nu) (C := C) h hp hk hL
          refine ⟨nu1, L1, C1, c1, fun D P hD => propext (pm_cl_of (k := 10 + 3 * (4 - k)) (by omega) (fun d' => ?_) P)⟩
          show pm_V X (d' + (10 + 3 * (4 - k))) 100 0 [some (.ref R), some (.int (nI k)), none, none] [] (pm_S0 ++ g, CHr I R w p nu L C, J) _
          obtain ⟨e, he⟩ := D_of (D := d' + (10 + 3 * (4 - k))) (H := 10) (k := 10) (by omega) (by omega)
          rw [he]
          by_cases q3 : k < 4
          · have hk4 : (4 ≤ nI k) = False := by
              rw [show (4 : Int32) = nI 4 from rfl, nI_le_l (by omega) (by omega)]
              exact eq_false (by omega)
            have x1 : ¬ nxT (I 25) n p = 33 := fun z => q1 ⟨q3, z⟩
            have x2 : ¬ nxT (I 25) n p = 40 := fun z => q2 ⟨q3, z⟩
            simp only [e_R_takeOne_0, e_R_takeOne_1, e_R_takeOne_2, e_R_takeOne_5, e_R_takeOne_6, e_R_takeOne_8, e_R_takeOne_11, e_R_takeOne_15, e_R_takeOne_16, e_R_takeOne_17, e_R_takeOne_18, e_R_takeOne_21, e_R_takeOne_24, e_R_takeOne_25, e_R_takeOne_26, e_R_takeOne_27, e_R_takeOne_30, e_R_takeOne_31, e_R_takeOne_34, e_R_takeOne_35, e_R_takeOne_36, e_R_takeOne_37, e_R_takeOne_38, e_R_takeOne_41, e_R_takeOne_42, e_R_takeOne_44, e_R_takeOne_47, e_R_takeOne_51, e_R_takeOne_52, e_R_takeOne_53, e_R_takeOne_54, e_R_takeOne_57, e_R_takeOne_60, e_R_takeOne_61, e_R_takeOne_63, e_R_takeOne_66, e_R_takeOne_69, e_R_takeOne_70, e_R_takeOne_73, e_R_takeOne_74, e_R_takeOne_76, e_R_takeOne_78, e_R_takeOne_81, e_R_takeOne_82, e_R_takeOne_83, e_R_takeOne_86, e_R_takeOne_87, e_R_takeOne_88, e_R_takeOne_89, e_R_takeOne_91, e_R_takeOne_94, e_R_takeOne_95, e_R_takeOne_96, e_R_takeOne_99, e_R_takeOne_100, e_R_takeOne_103, e_R_takeOne_106, e_R_takeOne_107, e_R_takeOne_108, e_R_takeOne_109, e_R_takeOne_112, e_R_takeOne_113, e_R_takeOne_116, e_R_takeOne_117, e_R_takeOne_118, e_R_takeOne_120, e_R_takeOne_121, e_R_takeOne_122, e_R_takeOne_123, e_R_takeOne_126, e_R_takeOne_127, e_R_takeOne_130, e_R_takeOne_131, hk4, ho, h2, w1, kt _ _ 33 c33, kt _ _ 40 c40, x1, x2, r1, pm_opt_some, pm_opt_none, pm_opt_if, Bool.false_eq_true, Bool.not_false, Bool.not_true, if_false, if_true, true_and, and_true, true_or, or_true, not_true_eq_false, not_false_eq_true, q10, q00, q01, q11, pk_v, pk_i, pk_l, pk_r]
          · have hk4 : (4 ≤ nI k) = True := by
              rw [show (4 : Int32) = nI 4 from rfl, nI_le_l (by omega) (by omega)]
              exact eq_true (by omega)
            simp only [e_R_takeOne_0, e_R_takeOne_1, e_R_takeOne_2, e_R_takeOne_6, e_R_takeOne_8, e_R_takeOne_11, e_R_takeOne_14, e_R_takeOne_15, e_R_takeOne_16, e_R_takeOne_17, e_R_takeOne_18, e_R_takeOne_21, e_R_takeOne_24, e_R_takeOne_25, e_R_takeOne_26, e_R_takeOne_27, e_R_takeOne_30, e_R_takeOne_31, e_R_takeOne_34, e_R_takeOne_35, e_R_takeOne_36, e_R_takeOne_37, e_R_takeOne_38, e_R_takeOne_42, e_R_takeOne_44, e_R_takeOne_47, e_R_takeOne_50, e_R_takeOne_51, e_R_takeOne_52, e_R_takeOne_53, e_R_takeOne_54, e_R_takeOne_57, e_R_takeOne_60, e_R_takeOne_61, e_R_takeOne_63, e_R_takeOne_66, e_R_takeOne_69, e_R_takeOne_70, e_R_takeOne_73, e_R_takeOne_74, e_R_takeOne_76, e_R_takeOne_78, e_R_takeOne_81, e_R_takeOne_82, e_R_takeOne_83, e_R_takeOne_86, e_R_takeOne_87, e_R_takeOne_88, e_R_takeOne_89, e_R_takeOne_91, e_R_takeOne_94, e_R_takeOne_95, e_R_takeOne_96, e_R_takeOne_99, e_R_takeOne_100, e_R_takeOne_103, e_R_takeOne_106, e_R_takeOne_107, e_R_takeOne_108, e_R_takeOne_109, e_R_takeOne_112, e_R_takeOne_113, e_R_takeOne_116, e_R_takeOne_117, e_R_takeOne_118, e_R_takeOne_120, e_R_takeOne_121, e_R_takeOne_122, e_R_takeOne_123, e_R_takeOne_126, e_R_takeOne_127, e_R_takeOne_130, e_R_takeOne_131, hk4, r1, pm_opt_some, pm_opt_none, pm_opt_if, Bool.false_eq_true, Bool.not_false, Bool.not_true, if_false, if_true, true_and, and_true, true_or, or_true, not_true_eq_false, not_false_eq_true, q10, q00, q01, q11, pk_v, pk_i, pk_l, pk_r]
    | 1, _ =>
      refine ⟨fun z => by omega, fun z => by omega, fun z => by omega, fun _ more hmp hm1 => ?_, fun z => by omega⟩
      have hm' : 4 * (n - p) + 1 ≤ F + 1 := hm
      rw [pP_1]
      have kt := fun (d : Nat) (P : pm_O → Prop) => K_R_take (X := X) (d := d) (P := P) (J := J) (nu := nu) (L := L) (C := C) h hp c38
      by_cases q1 : nxT (I 25) n p = 38
      · have hlt := nx_c q1 (by decide)
        have hmo : (100 ≤ nI more) = False := by
          rw [show (100 : Int32) = nI 100 from rfl, nI_le_l (by omega) (by omega)]
          exact eq_false (by omega)
        obtain ⟨nu1, L1, C1, c1, r1⟩ := (ih 0 k (p + 1) nu L C (by decide) (by show 4 * (n - (p + 1)) + 1 ≤ F; omega) hk (by omega) (by omega)).1 rfl
        have le := pP_le (T := I 25) F 0 k (p + 1) (by decide) (show p + 1 ≤ n by omega)
        rw [if_pos q1]
        generalize pP (I 25) n F 0 k (p + 1) = r at c1 r1 le ⊢
        obtain ⟨le1, le2, le3⟩ := le
        cases er : r.1 with
        | true =>
          obtain ⟨f1, f2⟩ := c1 er
          have le4 := le3 er
          rw [pBd_t er]
          obtain ⟨nu2, L2, C2, c2, r2⟩ := (ih 1 k r.2.1 nu1 (L1 + 1) (upd C1 L1 (-2)) (by decide) (by show 4 * (n - r.2.1) + 1 ≤ F; omega) hk le2 (by omega)).2.2.2.1 rfl (more + 1) (by omega) (by omega)
          refine ⟨nu2, L2, C2, fun z => ?_, fun D Q hD => ?_⟩
          · obtain ⟨g1, g2⟩ := c2 z
            refine ⟨?_, ?_⟩
            · rw [g1, f1]
              show _ = L + (r.2.2 ++ [-2] ++ _).length
              rw [List.length_append, List.length_append, List.length_singleton]
              omega
            · rw [g2, f1, f2, apL_1]
              show _ = apL C L (r.2.2 ++ [-2] ++ _)
              rw [apL_app (r.2.2 ++ [-2]), List.length_append, List.length_singleton, Nat.add_assoc]
          · have ka := fun (d : Nat) (P : pm_O → Prop) (v : Int32) => K_W_add (X := X) (d := d) (P := P) (J := J) (p := r.2.1) (nu := nu1) (L := L1) (v := v) (C := C1) h (by omega)
            have rr := fun (P : pm_O → Prop) => r1 D P (by omega)
            have rr2 := r2 D Q (by omega)
            rw [er] at rr
            show _ = Q (some (.int (b2i (pP (I 25) n F 1 k r.2.1).1)), (pm_S0 ++ g, CHr I R w (pP (I 25) n F 1 k r.2.1).2.1 nu2 L2 C2, J))
            rw [← rr2]
            obtain ⟨e, he⟩ := D_of (D := D) (H := 11) (k := 10) (by omega) (by omega)
            rw [he] at rr ⊢
            rw [e_R_takeAll_12]
            simp only [e_R_takeAll_0, e_R_takeAll_1, e_R_takeAll_2, e_R_takeAll_5, e_R_takeAll_8, e_R_takeAll_9, e_R_takeAll_10, e_R_takeAll_11, e_R_takeAll_13, e_R_takeAll_15, e_R_takeAll_18, e_R_takeAll_19, e_R_takeAll_21, e_R_takeAll_24, e_R_takeAll_27, e_R_takeAll_28, e_R_takeAll_29, e_R_takeAll_32, e_R_takeAll_35, e_R_takeAll_36, e_R_takeAll_37, e_R_takeAll_38, e_R_takeAll_41, e_R_takeAll_43, e_R_takeAll_46, e_R_takeAll_49, e_R_takeAll_52, e_R_takeAll_53, hmo, ho, h2, w1, kt, q1, rr, ka, nI_1, b2_t, pm_opt_some, pm_opt_none, pm_opt_if, Bool.false_eq_true, Bool.not_false, Bool.not_true, if_false, if_true, true_and, and_true, true_or, or_true, not_true_eq_false, not_false_eq_true, q10, q00, q01, q11, pk_v, pk_i, pk_l, pk_r]
        | false =>
          rw [pBd_f er]
          refine ⟨nu1, L1, C1, fun z => (by rw [er] at z; cases z), fun D Q hD => ?_⟩
          have rr := fun (P : pm_O → Prop) => r1 D P (by omega)
          rw [er] at rr
          rw [er]
          obtain ⟨e, he⟩ := D_of (D := D) (H := 11) (k := 10) (by omega) (by omega)
          rw [he] at rr ⊢
          rw [e_R_takeAll_12]
          simp only [e_R_takeAll_0, e_R_takeAll_1, e_R_takeAll_2, e_R_takeAll_5, e_R_takeAll_8, e_R_takeAll_9, e_R_takeAll_10, e_R_takeAll_11, e_R_takeAll_13, e_R_takeAll_15, e_R_takeAll_18, e_R_takeAll_19, e_R_takeAll_21, e_R_takeAll_24, e_R_takeAll_27, e_R_takeAll_28, e_R_takeAll_29, e_R_takeAll_32, e_R_takeAll_35, e_R_takeAll_36, e_R_takeAll_38, e_R_takeAll_41, e_R_takeAll_43, e_R_takeAll_46, e_R_takeAll_49, e_R_takeAll_52, e_R_takeAll_53, hmo, ho, h2, w1, kt, q1, rr, b2_f, pm_opt_some, pm_opt_none, pm_opt_if, Bool.false_eq_true, Bool.not_false, Bool.not_true, if_false, if_true, true_and, and_true, true_or, or_true, not_true_eq_false, not_false_eq_true, q10, q00, q01, q11, pk_v, pk_i, pk_l, pk_r]
      · rw [if_neg q1]
        refine ⟨nu, L, C, fun _ => ⟨rfl, rfl⟩, fun D Q hD => ?_⟩
        obtain ⟨e, he⟩ := D_of (D := D) (H := 11) (k := 10) (by omega) (by omega)
        rw [he, e_R_takeAll_12]
        dsimp only
        by_cases q2 : more < 100
        · have hmo : (100 ≤ nI more) = False := by
            rw [show (100 : Int32) = nI 100 from rfl, nI_le_l (by omega) (by omega)]
            exact eq_false (by omega)
          simp only [e_R_takeAll_0, e_R_takeAll_1, e_R_takeAll_2, e_R_takeAll_5, e_R_takeAll_8, e_R_takeAll_9, e_R_takeAll_10, e_R_takeAll_11, e_R_takeAll_13, e_R_takeAll_15, e_R_takeAll_18, e_R_takeAll_19, e_R_takeAll_21, e_R_takeAll_24, e_R_takeAll_28, e_R_takeAll_29, e_R_takeAll_32, e_R_takeAll_35, e_R_takeAll_36, e_R_takeAll_37, e_R_takeAll_38, e_R_takeAll_41, e_R_takeAll_43, e_R_takeAll_46, e_R_takeAll_49, e_R_takeAll_52, e_R_takeAll_53, hmo, ho, h2, w1, kt, q1, b2_t, pm_opt_some, pm_opt_none, pm_opt_if, Bool.false_eq_true, Bool.not_false, Bool.not_true, if_false, if_true, true_and, and_true, true_or, or_true, not_true_eq_false, not_false_eq_true, q10, q00, q01, q11, pk_v, pk_i, pk_l, pk_r]
        · have hmo : (100 ≤ nI more) = True := by
            rw [show (100 : Int32) = nI 100 from rfl, nI_le_l (by omega) (by omega)]
            exact eq_true (by omega)
          simp only [e_R_takeAll_0, e_R_takeAll_1, e_R_takeAll_2, e_R_takeAll_5, e_R_takeAll_8, e_R_takeAll_9, e_R_takeAll_10, e_R_takeAll_11, e_R_takeAll_13, e_R_takeAll_15, e_R_takeAll_19, e_R_takeAll_21, e_R_takeAll_24, e_R_takeAll_27, e_R_takeAll_28, e_R_takeAll_29, e_R_takeAll_32, e_R_takeAll_35, e_R_takeAll_36, e_R_takeAll_37, e_R_takeAll_38, e_R_takeAll_41, e_R_takeAll_43, e_R_takeAll_46, e_R_takeAll_49, e_R_takeAll_52, e_R_takeAll_53, hmo, b2_t, pm_opt_some, pm_opt_none, pm_opt_if, Bool.false_eq_true, Bool.not_false, Bool.not_true, if_false, if_true, true_and, and_true, true_or, or_true, not_true_eq_false, not_false_eq_true, q10, q00, q01, q11, pk_v, pk_i, pk_l, pk_r]
    | 2, _ =>
      refine ⟨fun z => by omega, fun z => by omega, fun z => by omega, fun z => by omega, fun _ more hmp hm1 => ?_⟩
      have hm' : 4 * (n - p) + 1 ≤ F + 1 := hm
      rw [pP_2]
      have kt := fun (d : Nat) (P : pm_O → Prop) => K_R_take (X := X) (d := d) (P := P) (J := J) (nu := nu) (L := L) (C := C) h hp c124
      by_cases q1 : nxT (I 25) n p = 124
      · have hlt := nx_c q1 (by decide)
        have hmo : (100 ≤ nI more) = False := by
          rw [show (100 : Int32) = nI 100 from rfl, nI_le_l (by omega) (by omega)]
          exact eq_false (by omega)
        obtain ⟨nu1, L1, C1, c1, r1⟩ := (ih 4 k (p + 1) nu L C (by decide) (by show 4 * (n - (p + 1)) + 3 ≤ F; omega) hk (by omega) (by omega)).2.1 rfl
        have le := pP_le (T := I 25) F 4 k (p + 1) (by decide) (show p + 1 ≤ n by omega)
        rw [if_pos q1]
        generalize pP (I 25) n F 4 k (p + 1) = r at c1 r1 le ⊢
        obtain ⟨le1, le2, le3⟩ := le
        cases er : r.1 with
        | true =>
          obtain ⟨f1, f2⟩ := c1 er
          have le4 := le3 er
          rw [pBd_t er]
          obtain ⟨nu2, L2, C2, c2, r2⟩ := (ih 2 k r.2.1 nu1 (L1 + 1) (upd C1 L1 (-3)) (by decide) (by show 4 * (n - r.2.1) + 1 ≤ F; omega) hk le2 (by omega)).2.2.2.2 rfl (more + 1) (by omega) (by omega)
          refine ⟨nu2, L2, C2, fun z => ?_, fun D Q hD => ?_⟩
          · obtain ⟨g1, g2⟩ := c2 z
            refine ⟨?_, ?_⟩
            · rw [g1, f1]
              show _ = L + (r.2.2 ++ [-3] ++ _).length
              rw [List.length_append, List.length_append, List.length_singleton]
              omega
            · rw [g2, f1, f2, apL_1]
              show _ = apL C L (r.2.2 ++ [-3] ++ _)
              rw [apL_app (r.2.2 ++ [-3]), List.length_append, List.length_singleton, Nat.add_assoc]
          · have ka := fun (d : Nat) (P : pm_O → Prop) (v : Int32) => K_W_add (X := X) (d := d) (P := P) (J := J) (p := r.2.1) (nu := nu1) (L := L1) (v := v) (C := C1) h (by omega)
            have rr := fun (P : pm_O → Prop) => r1 D P (by omega)
            have rr2 := r2 D Q (by omega)
            rw [er] at rr
            show _ = Q (some (.int (b2i (pP (I 25) n F 2 k r.2.1).1)), (pm_S0 ++ g, CHr I R w (pP (I 25) n F 2 k r.2.1).2.1 nu2 L2 C2, J))
            rw [← rr2]
            obtain ⟨e, he⟩ := D_of (D := D) (H := 11) (k := 10) (by omega) (by omega)
            rw [he] at rr ⊢
            rw [e_R_takeAny_12]
            simp only [e_R_takeAny_0, e_R_takeAny_1, e_R_takeAny_2, e_R_takeAny_5, e_R_takeAny_8, e_R_takeAny_9, e_R_takeAny_10, e_R_takeAny_11, e_R_takeAny_13, e_R_takeAny_15, e_R_takeAny_18, e_R_takeAny_19, e_R_takeAny_21, e_R_takeAny_24, e_R_takeAny_27, e_R_takeAny_28, e_R_takeAny_29, e_R_takeAny_32, e_R_takeAny_35, e_R_takeAny_36, e_R_takeAny_37, e_R_takeAny_38, e_R_takeAny_41, e_R_takeAny_43, e_R_takeAny_46, e_R_takeAny_49, e_R_takeAny_52, e_R_takeAny_53, hmo, ho, h2, w1, kt, q1, rr, ka, nI_1, b2_t, pm_opt_some, pm_opt_none, pm_opt_if, Bool.false_eq_true, Bool.not_false, Bool.not_true, if_false, if_true, true_and, and_true, true_or, or_true, not_true_eq_false, not_false_eq_true, q10, q00, q01, q11, pk_v, pk_i, pk_l, pk_r]
        | false =>
          rw [pBd_f er]
          refine ⟨nu1, L1, C1, fun z => (by rw [er] at z; cases z), fun D Q hD => ?_⟩
          have rr := fun (P : pm_O → Prop) => r1 D P (by omega)
          rw [er] at rr
          rw [er]
          obtain ⟨e, he⟩ := D_of (D := D) (H := 11) (k := 10) (by omega) (by omega)
          rw [he] at rr ⊢
          rw [e_R_takeAny_12]
          simp only [e_R_takeAny_0, e_R_takeAny_1, e_R_takeAny_2, e_R_takeAny_5, e_R_takeAny_8, e_R_takeAny_9, e_R_takeAny_10, e_R_takeAny_11, e_R_takeAny_13, e_R_takeAny_15, e_R_takeAny_18, e_R_takeAny_19, e_R_takeAny_21, e_R_takeAny_24, e_R_takeAny_27, e_R_takeAny_28, e_R_takeAny_29, e_R_takeAny_32, e_R_takeAny_35, e_R_takeAny_36, e_R_takeAny_38, e_R_takeAny_41, e_R_takeAny_43, e_R_takeAny_46, e_R_takeAny_49, e_R_takeAny_52, e_R_takeAny_53, hmo, ho, h2, w1, kt, q1, rr, b2_f, pm_opt_some, pm_opt_none, pm_opt_if, Bool.false_eq_true, Bool.not_false, Bool.not_true, if_false, if_true, true_and, and_true, true_or, or_true, not_true_eq_false, not_false_eq_true, q10, q00, q01, q11, pk_v, pk_i, pk_l, pk_r]
      · rw [if_neg q1]
        refine ⟨nu, L, C, fun _ => ⟨rfl, rfl⟩, fun D Q hD => ?_⟩
        obtain ⟨e, he⟩ := D_of (D := D) (H := 11) (k := 10) (by omega) (by omega)
        rw [he, e_R_takeAny_12]
        dsimp only
        by_cases q2 : more < 100
        · have hmo : (100 ≤ nI more) = False := by
            rw [show (100 : Int32) = nI 100 from rfl, nI_le_l (by omega) (by omega)]
            exact eq_false (by omega)
          simp only [e_R_takeAny_0, e_R_takeAny_1, e_R_takeAny_2, e_R_takeAny_5, e_R_takeAny_8, e_R_takeAny_9, e_R_takeAny_10, e_R_takeAny_11, e_R_takeAny_13, e_R_takeAny_15, e_R_takeAny_18, e_R_takeAny_19, e_R_takeAny_21, e_R_takeAny_24, e_R_takeAny_28, e_R_takeAny_29, e_R_takeAny_32, e_R_takeAny_35, e_R_takeAny_36, e_R_takeAny_37, e_R_takeAny_38, e_R_takeAny_41, e_R_takeAny_43, e_R_takeAny_46, e_R_takeAny_49, e_R_takeAny_52, e_R_takeAny_53, hmo, ho, h2, w1, kt, q1, b2_t, pm_opt_some, pm_opt_none, pm_opt_if, Bool.false_eq_true, Bool.not_false, Bool.not_true, if_false, if_true, true_and, and_true, true_or, or_true, not_true_eq_false, not_false_eq_true, q10, q00, q01, q11, pk_v, pk_i, pk_l, pk_r]
        · have hmo : (100 ≤ nI more) = True := by
            rw [show (100 : Int32) = nI 100 from rfl, nI_le_l (by omega) (by omega)]
            exact eq_true (by omega)
          simp only [e_R_takeAny_0, e_R_takeAny_1, e_R_takeAny_2, e_R_takeAny_5, e_R_takeAny_8, e_R_takeAny_9, e_R_takeAny_10, e_R_takeAny_11, e_R_takeAny_13, e_R_takeAny_15, e_R_takeAny_19, e_R_takeAny_21, e_R_takeAny_24, e_R_takeAny_27, e_R_takeAny_28, e_R_takeAny_29, e_R_takeAny_32, e_R_takeAny_35, e_R_takeAny_36, e_R_takeAny_37, e_R_takeAny_38, e_R_takeAny_41, e_R_takeAny_43, e_R_takeAny_46, e_R_takeAny_49, e_R_takeAny_52, e_R_takeAny_53, hmo, b2_t, pm_opt_some, pm_opt_none, pm_opt_if, Bool.false_eq_true, Bool.not_false, Bool.not_true, if_false, if_true, true_and, and_true, true_or, or_true, not_true_eq_false, not_false_eq_true, q10, q00, q01, q11, pk_v, pk_i, pk_l, pk_r]
    | 3, _ =>
      refine ⟨fun z => by omega, fun z => by omega, fun _ => ?_, fun z => by omega, fun z => by omega⟩
      have hm' : 4 * (n - p) + 4 ≤ F + 1 := hm
      rw [pP_3]
      obtain ⟨nu1, L1, C1, c1, r1⟩ := (ih 4 k p nu L C (by decide) (by show 4 * (n - p) + 3 ≤ F; omega) hk hp hL).2.1 rfl
      have le := pP_le (T := I 25) F 4 k p (by decide) hp
      generalize pP (I 25) n F 4 k p = r at c1 r1 le ⊢
      obtain ⟨le1, le2, le3⟩ := le
      cases er : r.1 with
      | true =>
        obtain ⟨f1, f2⟩ := c1 er
        have le4 := le3 er
        rw [pBd_t er]
        obtain ⟨nu2, L2, C2, c2, r2⟩ := (ih 2 k r.2.1 nu1 L1 C1 (by decide) (by show 4 * (n - r.2.1) + 1 ≤ F; omega) hk le2 (by omega)).2.2.2.2 rfl 0 (Nat.zero_le _) (Nat.zero_le _)
        refine ⟨nu2, L2, C2, fun z => ?_, fun D P hD => propext (pm_cl_of (k := 12 + 3 * (4 - k)) (by omega) (fun d' => ?_) P)⟩
        · obtain ⟨g1, g2⟩ := c2 z
          refine ⟨?_, ?_⟩
          · rw [g1, f1]
            show _ = L + (r.2.2 ++ _).length
            rw [List.length_append]
            omega
          · rw [g2, f1, f2]
            show _ = apL C L (r.2.2 ++ _)
            rw [apL_app]
        · have rr := fun (P : pm_O → Prop) => r1 (d' + (12 + 3 * (4 - k))) P (by omega)
          have rr2 := fun (Q : pm_O → Prop) => r2 (d' + (12 + 3 * (4 - k))) Q (by omega)
          rw [er] at rr
          rw [nI_0] at rr2
          show pm_V X (d' + (12 + 3 * (4 - k))) 98 0 [some (.ref R), some (.int (nI k)), none] [] (pm_S0 ++ g, CHr I R w p nu L C, J) _
          simp only [e_R_takeAny_0, e_R_takeAny_1, e_R_takeAny_2, e_R_takeAny_5, e_R_takeAny_8, e_R_takeAny_9, e_R_takeAny_10, e_R_takeAny_11, e_R_takeAny_13, e_R_takeAny_15, e_R_takeAny_18, e_R_takeAny_19, e_R_takeAny_21, e_R_takeAny_24, e_R_takeAny_27, e_R_takeAny_28, e_R_takeAny_29, e_R_takeAny_32, e_R_takeAny_35, e_R_takeAny_36, e_R_takeAny_37, e_R_takeAny_38, e_R_takeAny_41, e_R_takeAny_43, e_R_takeAny_46, e_R_takeAny_49, e_R_takeAny_52, e_R_takeAny_53, ho, rr, b2_t, pm_opt_some, pm_opt_none, pm_opt_if, Bool.false_eq_true, Bool.not_false, Bool.not_true, if_false, if_true, true_and, and_true, true_or, or_true, not_true_eq_false, not_false_eq_true, q10, q00, q01, q11, pk_v, pk_i, pk_l, pk_r]
          rw [rr2]
          rfl
      | false =>
        rw [pBd_f er]
        refine ⟨nu1, L1, C1, fun z => (by rw [er] at z; cases z), fun D P hD => propext (pm_cl_of (k := 12 + 3 * (4 - k)) (by omega) (fun d' => ?_) P)⟩
        have rr := fun (P : pm_O → Prop) => r1 (d' + (12 + 3 * (4 - k))) P (by omega)
        rw [er] at rr
        rw [er]
        show pm_V X (d' + (12 + 3 * (4 - k))) 98 0 [some (.ref R), some (.int (nI k)), none] [] (pm_S0 ++ g, CHr I R w p nu L C, J) _
        simp only [e_R_takeAny_0, e_R_takeAny_1, e_R_takeAny_2, e_R_takeAny_5, e_R_takeAny_8, e_R_takeAny_9, e_R_takeAny_10, e_R_takeAny_11, e_R_takeAny_13, e_R_takeAny_15, e_R_takeAny_18, e_R_takeAny_19, e_R_takeAny_21, e_R_takeAny_24, e_R_takeAny_27, e_R_takeAny_28, e_R_takeAny_29, e_R_takeAny_32, e_R_takeAny_35, e_R_takeAny_36, e_R_takeAny_37, e_R_takeAny_38, e_R_takeAny_41, e_R_takeAny_43, e_R_takeAny_46, e_R_takeAny_49, e_R_takeAny_52, e_R_takeAny_53, ho, rr, b2_f, pm_opt_some, pm_opt_none, pm_opt_if, Bool.false_eq_true, Bool.not_false, Bool.not_true, if_false, if_true, true_and, and_true, true_or, or_true, not_true_eq_false, not_false_eq_true, q10, q00, q01, q11, pk_v, pk_i, pk_l, pk_r]
    | 4, _ =>
      refine ⟨fun z => by omega, fun _ => ?_, fun z => by omega, fun z => by omega, fun z => by omega⟩
      have hm' : 4 * (n - p) + 3 ≤ F + 1 := hm
      rw [pP_4]
      obtain ⟨nu1, L1, C1, c1, r1⟩ := (ih 0 k p nu L C (by decide) (by show 4 * (n - p) + 1 ≤ F; omega) hk hp hL).1 rfl
      have le := pP_le (T := I 25) F 0 k p (by decide) hp
      generalize pP (I 25) n F 0 k p = r at c1 r1 le ⊢
      obtain ⟨le1, le2, le3⟩ := le
      cases er : r.1 with
      | true =>
        obtain ⟨f1, f2⟩ := c1 er
        have le4 := le3 er
        rw [pBd_t er]
        obtain ⟨nu2, L2, C2, c2, r2⟩ := (ih 1 k r.2.1 nu1 L1 C1 (by decide) (by show 4 * (n - r.2.1) + 1 ≤ F; omega) hk le2 (by omega)).2.2.2.1 rfl 0 (Nat.zero_le _) (Nat.zero_le _)
        refine ⟨nu2, L2, C2, fun z => ?_, fun D P hD => propext (pm_cl_of (k := 11 + 3 * (4 - k)) (by omega) (fun d' => ?_) P)⟩
        · obtain ⟨g1, g2⟩ := c2 z
          refine ⟨?_, ?_⟩
          · rw [g1, f1]
            show _ = L + (r.2.2 ++ _).length
            rw [List.length_append]
            omega
          · rw [g2, f1, f2]
            show _ = apL C L (r.2.2 ++ _)
            rw [apL_app]
        · have rr := fun (P : pm_O → Prop) => r1 (d' + (11 + 3 * (4 - k))) P (by omega)
          have rr2 := fun (Q : pm_O → Prop) => r2 (d' + (11 + 3 * (4 - k))) Q (by omega)
          rw [er] at rr
          rw [nI_0] at rr2
          show pm_V X (d' + (11 + 3 * (4 - k))) 99 0 [some (.ref R), some (.int (nI k)), none] [] (pm_S0 ++ g, CHr I R w p nu L C, J) _
          simp only [e_R_takeAll_0, e_R_takeAll_1, e_R_takeAll_2, e_R_takeAll_5, e_R_takeAll_8, e_R_takeAll_9, e_R_takeAll_10, e_R_takeAll_11, e_R_takeAll_13, e_R_takeAll_15, e_R_takeAll_18, e_R_takeAll_19, e_R_takeAll_21, e_R_takeAll_24, e_R_takeAll_27, e_R_takeAll_28, e_R_takeAll_29, e_R_takeAll_32, e_R_takeAll_35, e_R_takeAll_36, e_R_takeAll_37, e_R_takeAll_38, e_R_takeAll_41, e_R_takeAll_43, e_R_takeAll_46, e_R_takeAll_49, e_R_takeAll_52, e_R_takeAll_53, ho, rr, b2_t, pm_opt_some, pm_opt_none, pm_opt_if, Bool.false_eq_true, Bool.not_false, Bool.not_true, if_false, if_true, true_and, and_true, true_or, or_true, not_true_eq_false, not_false_eq_true, q10, q00, q01, q11, pk_v, pk_i, pk_l, pk_r]
          rw [rr2]
          rfl
      | false =>
        rw [pBd_f er]
        refine ⟨nu1, L1, C1, fun z => (by rw [er] at z; cases z), fun D P hD => propext (pm_cl_of (k := 11 + 3 * (4 - k)) (by omega) (fun d' => ?_) P)⟩
        have rr := fun (P : pm_O → Prop) => r1 (d' + (11 + 3 * (4 - k))) P (by omega)
        rw [er] at rr
        rw [er]
        show pm_V X (d' + (11 + 3 * (4 - k))) 99 0 [some (.ref R), some (.int (nI k)), none] [] (pm_S0 ++ g, CHr I R w p nu L C, J) _
        simp only [e_R_takeAll_0, e_R_takeAll_1, e_R_takeAll_2, e_R_takeAll_5, e_R_takeAll_8, e_R_takeAll_9, e_R_takeAll_10, e_R_takeAll_11, e_R_takeAll_13, e_R_takeAll_15, e_R_takeAll_18, e_R_takeAll_19, e_R_takeAll_21, e_R_takeAll_24, e_R_takeAll_27, e_R_takeAll_28, e_R_takeAll_29, e_R_takeAll_32, e_R_takeAll_35, e_R_takeAll_36, e_R_takeAll_37, e_R_takeAll_38, e_R_takeAll_41, e_R_takeAll_43, e_R_takeAll_46, e_R_takeAll_49, e_R_takeAll_52, e_R_takeAll_53, ho, rr, b2_f, pm_opt_some, pm_opt_none, pm_opt_if, Bool.false_eq_true, Bool.not_false, Bool.not_true, if_false, if_true, true_and, and_true, true_or, or_true, not_true_eq_false, not_false_eq_true, q10, q00, q01, q11, pk_v, pk_i, pk_l, pk_r]
end P73
