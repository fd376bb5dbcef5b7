/-! pairs of calls: tape, item, read, judge -/
section P45
variable {X : pm_X} {d : Nat} {P Q : pm_O → Prop} {g : List pm_S} {S : List pm_S} {I I' I1 B : Nat → Nat → Int32} {J J' : Nat → Nat → Int64} {i j w t : Nat} {c a b s n k l : Int32} {v : Int64} {fi : Int32} {p : Nat → Int32}
theorem tp_o (ht : t < 6) : pm_isO (pm_S0 ++ g) (70 + 2 * t) 4 = true := by
  match t, ht with
  | 0, _ => rfl
  | 1, _ => rfl
  | 2, _ => rfl
  | 3, _ => rfl
  | 4, _ => rfl
  | 5, _ => rfl
theorem tp_r (ht : t < 6) : pm_rg (pm_S0 ++ g) (70 + 2 * t) 4 2 = some (.ref (71 + 2 * t)) := by
  match t, ht with
  | 0, _ => rfl
  | 1, _ => rfl
  | 2, _ => rfl
  | 3, _ => rfl
  | 4, _ => rfl
  | 5, _ => rfl
theorem tp_s (ht : t < 6) : (pm_S0 ++ g)[71 + 2 * t]? = some (4, 60, []) := by
  match t, ht with
  | 0, _ => rfl
  | 1, _ => rfl
  | 2, _ => rfl
  | 3, _ => rfl
  | 4, _ => rfl
  | 5, _ => rfl
theorem tp_a (ht : t < 6) : pm_aa (pm_S0 ++ g) 32 (nI t) = some (.ref (70 + 2 * t)) := by
  rw [sh_i_32, bad_nI ht (by decide), nI_clamp (by omega)]
  match t, ht with
  | 0, _ => rfl
  | 1, _ => rfl
  | 2, _ => rfl
  | 3, _ => rfl
  | 4, _ => rfl
  | 5, _ => rfl
theorem la_of {a n : Nat} {r : List (Option Nat)} (h : S[a]? = some (4, n, r)) (i : Int32) : pm_la S J a i = if pm_bad i n = true then none else some (J a i.toNatClampNeg) := by
  unfold pm_la
  rw [h]
  rfl
theorem K_T_become {s n : Int32} (ht : t < 6) : pm_cl X (d + 1) 83 [.ref (70 + 2 * t), .int s, .int n] (pm_S0 ++ g, I, J) P = P (none, (pm_S0 ++ g, pm_w (pm_w I (70 + 2 * t) 0 s) (70 + 2 * t) 1 n, pm_upJ J (71 + 2 * t) (fun i => if i < 60 then 0 else J (71 + 2 * t) i))) := by
  refine K_of (k := 0) (fun d' => ?_)
  have L := fun (Q : pm_O → Prop) => pm_lp0 (fun k => pm_V X d' 83 12 [some (.ref (70 + 2 * t)), some (.int s), some (.int n), some (.int (nI k))] [] (pm_S0 ++ g, pm_w (pm_w I (70 + 2 * t) 0 s) (70 + 2 * t) 1 n, pm_upJ J (71 + 2 * t) (fun i => if i < k then 0 else J (71 + 2 * t) i)) Q) 60 (by
    intro k hk
    have h1 : ((60 : Int32) ≤ nI k) = False := by
      rw [show (60 : Int32) = nI 60 from rfl, nI_le_l (by omega) (by omega)]
      exact eq_false (by omega)
    have bk := bad_nI (k := k) (n := 60) hk (by omega)
    have ck := nI_clamp (n := k) (by omega)
    show pm_V X d' 83 12 [some (.ref (70 + 2 * t)), some (.int s), some (.int n), some (.int (nI k))] [] (pm_S0 ++ g, pm_w (pm_w I (70 + 2 * t) 0 s) (70 + 2 * t) 1 n, pm_upJ J (71 + 2 * t) (fun i => if i < k then 0 else J (71 + 2 * t) i)) Q = _
    rw [e_T_become_12]
    simp only [e_T_become_0, e_T_become_1, e_T_become_2, e_T_become_5, e_T_become_6, e_T_become_7, e_T_become_10, e_T_become_11, e_T_become_13, e_T_become_15, e_T_become_18, e_T_become_19, e_T_become_22, e_T_become_23, e_T_become_24, e_T_become_25, e_T_become_28, e_T_become_31, tp_r ht, ow_of (tp_s ht), h1, bk, ck, nI_1, pm_opt_some, pm_opt_none, pm_opt_if, Bool.false_eq_true, Bool.not_false, Bool.not_true, if_false, if_true, true_and, and_true, true_or, or_true, not_true_eq_false, not_false_eq_true, q10, q00, q01, q11, pk_v, pk_i, pk_l, pk_r]
    have e : pm_wJ (pm_upJ J (71 + 2 * t) (fun i => if i < k then 0 else J (71 + 2 * t) i)) (71 + 2 * t) k 0 = pm_upJ J (71 + 2 * t) (fun i => if i < k + 1 then 0 else J (71 + 2 * t) i) := by
      funext q i
      unfold pm_wJ pm_upJ vp_updL
      by_cases h : q = 71 + 2 * t
      · simp only [h, if_true]
        by_cases h2 : i = k
        · subst h2; simp
        · have : (i < k + 1) = (i < k) := propext (by omega)
          simp [h2, this]
      · simp only [h, if_false]
    rw [e]) 60 0 (by omega)
  have e0 : pm_upJ J (71 + 2 * t) (fun i => if i < 0 then 0 else J (71 + 2 * t) i) = J := by
    funext q i
    unfold pm_upJ
    by_cases h : q = 71 + 2 * t
    · simp [h]
    · simp [h]
  rw [e0, nI_0] at L
  have h60 : ((60 : Int32) ≤ nI 60) = True := by decide
  show pm_V X d' 83 0 [some (.ref (70 + 2 * t)), some (.int s), some (.int n), none] [] (pm_S0 ++ g, I, J) _
  simp only [e_T_become_0, e_T_become_1, e_T_become_2, e_T_become_5, e_T_become_6, e_T_become_7, e_T_become_10, e_T_become_11, e_T_become_13, e_T_become_15, e_T_become_18, e_T_become_19, e_T_become_22, e_T_become_23, e_T_become_24, e_T_become_25, e_T_become_28, e_T_become_31, tp_o ht, pm_opt_some, pm_opt_none, pm_opt_if, Bool.false_eq_true, Bool.not_false, Bool.not_true, if_false, if_true, true_and, and_true, true_or, or_true, not_true_eq_false, not_false_eq_true, q10, q00, q01, q11, pk_v, pk_i, pk_l, pk_r]
  rw [L, e_T_become_12]
  simp only [e_T_become_0, e_T_become_1, e_T_become_2, e_T_become_5, e_T_become_6, e_T_become_7, e_T_become_10, e_T_become_11, e_T_become_13, e_T_become_15, e_T_become_18, e_T_become_19, e_T_become_22, e_T_become_23, e_T_become_24, e_T_become_25, e_T_become_28, e_T_become_31, h60, pm_opt_some, pm_opt_none, pm_opt_if, Bool.false_eq_true, Bool.not_false, Bool.not_true, if_false, if_true, true_and, and_true, true_or, or_true, not_true_eq_false, not_false_eq_true, q10, q00, q01, q11, pk_v, pk_i, pk_l, pk_r]
/-- the relation, tapes changed -/
theorem Rel_tape {I' : Nat → Nat → Int32} {J' : Nat → Nat → Int64} (hR : Rel I J) (h : ∀ q, (q < 70 ∨ 82 ≤ q) → ¬ q = 119 → ¬ q = 120 → I' q = I q) (hT : RT I' J') : Rel I' J' := by
  obtain ⟨r1, r2, r3, r4, r5, r6, r7, r8⟩ := hR
  have e : ∀ q, q < 70 → I' q = I q := fun q hq => h q (Or.inl hq) (by omega) (by omega)
  have e' : ∀ q, 82 ≤ q → q < 119 → I' q = I q := fun q hq hq2 => h q (Or.inr hq) (by omega) (by omega)
  refine ⟨?_, ?_, ?_, ?_, ?_, ?_, ?_, hT⟩
  · unfold REn at r1 ⊢
    simp only [e, e', Nat.reduceLeDiff, Nat.reduceLT]
    exact r1
  · unfold REk at r2 ⊢
    simp only [e, e', Nat.reduceLeDiff, Nat.reduceLT]
    exact r2
  · unfold REo at r3 ⊢
    simp only [e, e', Nat.reduceLeDiff, Nat.reduceLT]
    exact r3
  · unfold RBn at r4 ⊢
    simp only [e, Nat.reduceLT]
    exact r4
  · unfold RBk at r5 ⊢
    simp only [e, Nat.reduceLT]
    exact r5
  · exact RW_fr (fun q h1 h2 h3 => e q h2) (fun q h1 h2 => e' q (by omega) (by omega)) (by rw [e 0 (by omega)]) r6
  · unfold RX at r7 ⊢
    simp only [e, Nat.reduceLT]
    exact r7
theorem M_tape_loop (ht : t < 6) : ∀ (d : Nat) (Q : pm_O → Prop), pm_V X d 187 69 [some (.ref 82), some (.int (nI t)), some (.int s), some (.int n), some (.int 0)] [] (pm_S0 ++ g, I, J) Q = Q (some (.int 1), (pm_S0 ++ g, I, pm_upJ J 121 (fun i => if 60 * t ≤ i ∧ i < 60 * t + 60 then 0 else J 121 i))) := by
  intro d Q
  have L := pm_lp0 (fun k => pm_V X d 187 69 [some (.ref 82), some (.int (nI t)), some (.int s), some (.int n), some (.int (nI k))] [] (pm_S0 ++ g, I, pm_upJ J 121 (fun i => if 60 * t ≤ i ∧ i < 60 * t + k then 0 else J 121 i)) Q) 60 (by
    intro k hk
    have h1 : ((60 : Int32) ≤ nI k) = False := by
      rw [show (60 : Int32) = nI 60 from rfl, nI_le_l (by omega) (by omega)]
      exact eq_false (by omega)
    have bk := bad_nI (k := 60 * t + k) (n := 360) (by omega) (by decide)
    have ck := nI_clamp (n := 60 * t + k) (by omega)
    have m60 : (60 : Int32) * nI t = nI (60 * t) := pk_mul 60 t
    show pm_V X d 187 69 [some (.ref 82), some (.int (nI t)), some (.int s), some (.int n), some (.int (nI k))] [] (pm_S0 ++ g, I, pm_upJ J 121 (fun i => if 60 * t ≤ i ∧ i < 60 * t + k then 0 else J 121 i)) Q = _
    rw [e_M_tape_69]
    simp only [e_M_tape_0, e_M_tape_1, e_M_tape_2, e_M_tape_5, e_M_tape_8, e_M_tape_9, e_M_tape_10, e_M_tape_11, e_M_tape_12, e_M_tape_13, e_M_tape_14, e_M_tape_17, e_M_tape_20, e_M_tape_21, e_M_tape_24, e_M_tape_25, e_M_tape_27, e_M_tape_30, e_M_tape_32, e_M_tape_33, e_M_tape_34, e_M_tape_37, e_M_tape_38, e_M_tape_41, e_M_tape_43, e_M_tape_44, e_M_tape_45, e_M_tape_48, e_M_tape_49, e_M_tape_50, e_M_tape_51, e_M_tape_52, e_M_tape_55, e_M_tape_56, e_M_tape_57, e_M_tape_60, e_M_tape_61, e_M_tape_64, e_M_tape_65, e_M_tape_66, e_M_tape_67, e_M_tape_71, e_M_tape_73, e_M_tape_76, e_M_tape_77, e_M_tape_80, e_M_tape_82, e_M_tape_83, e_M_tape_84, e_M_tape_86, e_M_tape_87, e_M_tape_88, e_M_tape_89, e_M_tape_92, e_M_tape_95, e_M_tape_96, h1, sh_r_82_57, sh_w_121, m60, nI_add, bk, ck, nI_1, pm_opt_some, pm_opt_none, pm_opt_if, Bool.false_eq_true, Bool.not_false, Bool.not_true, if_false, if_true, true_and, and_true, true_or, or_true, not_true_eq_false, not_false_eq_true, q10, q00, q01, q11, pk_v, pk_i, pk_l, pk_r]
    have e : pm_wJ (pm_upJ J 121 (fun i => if 60 * t ≤ i ∧ i < 60 * t + k then 0 else J 121 i)) 121 (60 * t + k) 0 = pm_upJ J 121 (fun i => if 60 * t ≤ i ∧ i < 60 * t + (k + 1) then 0 else J 121 i) := by
      funext q i
      unfold pm_wJ pm_upJ vp_updL
      by_cases h : q = 121
      · simp only [h, if_true]
        by_cases h2 : i = 60 * t + k
        · rw [if_pos h2, if_pos (by omega)]
        · have : (60 * t ≤ i ∧ i < 60 * t + (k + 1)) = (60 * t ≤ i ∧ i < 60 * t + k) := propext (by omega)
          simp only [h2, if_false, this]
      · simp only [h, if_false]
    rw [e]) 60 0 (by omega)
  have e0 : pm_upJ J 121 (fun i => if 60 * t ≤ i ∧ i < 60 * t + 0 then 0 else J 121 i) = J := by
    funext q i
    unfold pm_upJ
    by_cases h : q = 121
    · rw [if_pos h, if_neg (by omega), h]
    · rw [if_neg h]
  rw [e0, nI_0] at L
  have h60 : ((60 : Int32) ≤ nI 60) = True := by decide
  rw [L, e_M_tape_69]
  simp only [e_M_tape_0, e_M_tape_1, e_M_tape_2, e_M_tape_5, e_M_tape_8, e_M_tape_9, e_M_tape_10, e_M_tape_11, e_M_tape_12, e_M_tape_13, e_M_tape_14, e_M_tape_17, e_M_tape_20, e_M_tape_21, e_M_tape_24, e_M_tape_25, e_M_tape_27, e_M_tape_30, e_M_tape_32, e_M_tape_33, e_M_tape_34, e_M_tape_37, e_M_tape_38, e_M_tape_41, e_M_tape_43, e_M_tape_44, e_M_tape_45, e_M_tape_48, e_M_tape_49, e_M_tape_50, e_M_tape_51, e_M_tape_52, e_M_tape_55, e_M_tape_56, e_M_tape_57, e_M_tape_60, e_M_tape_61, e_M_tape_64, e_M_tape_65, e_M_tape_66, e_M_tape_67, e_M_tape_71, e_M_tape_73, e_M_tape_76, e_M_tape_77, e_M_tape_80, e_M_tape_82, e_M_tape_83, e_M_tape_84, e_M_tape_86, e_M_tape_87, e_M_tape_88, e_M_tape_89, e_M_tape_92, e_M_tape_95, e_M_tape_96, h60, pm_opt_some, pm_opt_none, pm_opt_if, Bool.false_eq_true, Bool.not_false, Bool.not_true, if_false, if_true, true_and, and_true, true_or, or_true, not_true_eq_false, not_false_eq_true, q10, q00, q01, q11, pk_v, pk_i, pk_l, pk_r]
/-- RT behind a tape's becoming -/
theorem RT_become (ht : t < 6) {s n : Int32} {m : Nat} (hm : m ≤ 60) (hn : n = nI m) (hs : (s = -1 ∧ n = 0) ∨ ∃ k, k ≤ 4 ∧ s = nI k) (hR : RT I J) : RT (pm_w (pm_w (pm_w (pm_w I (70 + 2 * t) 0 s) (70 + 2 * t) 1 n) 119 t s) 120 t n) (pm_upJ (pm_upJ J (71 + 2 * t) (fun i => if i < 60 then 0 else J (71 + 2 * t) i)) 121 (fun i => if 60 * t ≤ i ∧ i < 60 * t + 60 then 0 else J 121 i)) := by
  intro u hu
  obtain ⟨h1, h2, h3, h4, h5⟩ := hR u hu
  have n1 : ¬ 70 + 2 * u = 119 := by omega
  have n2 : ¬ 70 + 2 * u = 120 := by omega
  have n3 : ¬ 119 = 70 + 2 * t := by omega
  have n4 : ¬ 120 = 70 + 2 * t := by omega
  have n5 : ¬ 71 + 2 * u = 121 := by omega
  simp only [pm_w_app, n1, n2, n3, n4, false_and, if_false, Nat.reduceEqDiff, true_and]
  unfold pm_upJ
  simp only [n5, if_false, if_true]
  by_cases e : u = t
  · subst e
    simp only [if_true, true_and, Nat.zero_ne_one, Nat.one_ne_zero, if_false, and_false, and_true]
    refine ⟨⟨m, hm, hn⟩, hs, fun k hk => ?_⟩
    rw [if_pos (by omega), if_pos (by omega)]
  · have e2 : ¬ 70 + 2 * u = 70 + 2 * t := by omega
    have e3 : ¬ 71 + 2 * u = 71 + 2 * t := by omega
    simp only [e, e2, e3, false_and, if_false]
    refine ⟨h1, h2, h3, h4, fun k hk => ?_⟩
    rw [if_neg (by omega)]
    exact h5 k hk
theorem tape_fr {s n : Int32} {q : Nat} (ht : t < 6) (h : q < 70 ∨ 82 ≤ q) (h1 : ¬ q = 119) (h2 : ¬ q = 120) : pm_w (pm_w (pm_w (pm_w I (70 + 2 * t) 0 s) (70 + 2 * t) 1 n) 119 t s) 120 t n q = I q := by
  rw [pw_ne h2, pw_ne h1, pw_ne (by omega), pw_ne (by omega)]
theorem Pair_tape (hR : Rel I J) : Pair X 32 187 [.int a, .int s, .int n] g I J := by
  by_cases ha : 0 ≤ a ∧ a ≤ 5
  · obtain ⟨t, ht, rfl⟩ := in_of (m := 5) rfl ha
    have ht' : t < 6 := by omega
    have bt := bad_nI (k := t) (n := 6) ht' (by decide)
    have ct := nI_clamp (n := t) (by omega)
    have ne : ∀ J : Nat → Nat → Int64, pm_upJ J (71 + 2 * t) (fun i => if i < 60 then 0 else J (71 + 2 * t) i) 121 = J 121 := by
      intro J
      unfold pm_upJ
      rw [if_neg (by omega)]
    by_cases hs : s = -1
    · subst hs
      refine ⟨.int 1, g, pm_w (pm_w I (70 + 2 * t) 0 (-1)) (70 + 2 * t) 1 0, (pm_upJ J (71 + 2 * t) (fun i => if i < 60 then 0 else J (71 + 2 * t) i)), pm_w (pm_w (pm_w (pm_w I (70 + 2 * t) 0 (-1)) (70 + 2 * t) 1 0) 119 t (-1)) 120 t 0, pm_upJ (pm_upJ J (71 + 2 * t) (fun i => if i < 60 then 0 else J (71 + 2 * t) i)) 121 (fun i => if 60 * t ≤ i ∧ i < 60 * t + 60 then 0 else J 121 i), ?_, Or.inl rfl, rfl, K50 fun d' => ?_, K50 fun d' => ?_⟩
      rotate_left
      · show pm_V X (d' + 49) 32 0 [some (.ref 0), some (.int (nI t)), some (.int (-1)), some (.int n)] [] (pm_S0 ++ g, I, J) _
        simp only [e_B_tape_0, e_B_tape_1, e_B_tape_4, e_B_tape_7, e_B_tape_8, e_B_tape_9, e_B_tape_10, e_B_tape_11, e_B_tape_14, e_B_tape_15, e_B_tape_18, e_B_tape_19, e_B_tape_20, e_B_tape_21, e_B_tape_22, e_B_tape_25, e_B_tape_26, e_B_tape_27, e_B_tape_28, e_B_tape_29, e_B_tape_30, e_B_tape_33, e_B_tape_36, e_B_tape_37, e_B_tape_39, e_B_tape_42, e_B_tape_44, e_B_tape_45, e_B_tape_46, e_B_tape_49, e_B_tape_51, e_B_tape_52, e_B_tape_53, e_B_tape_56, e_B_tape_57, e_B_tape_58, e_B_tape_59, e_B_tape_60, e_B_tape_63, e_B_tape_64, K_B_isTape, eq_true ha, sh_r_0_8, tp_a ht', tp_o ht', K_T_become ht', pm_opt_some, pm_opt_none, pm_opt_if, Bool.false_eq_true, Bool.not_false, Bool.not_true, if_false, if_true, true_and, and_true, true_or, or_true, not_true_eq_false, not_false_eq_true, q10, q00, q01, q11, pk_v, pk_i, pk_l, pk_r]
      · have z1 : ((-1 : Int32) ≤ -1 ∧ (-1 : Int32) ≤ 4) = True := by decide
        have z2 : ((-1 : Int32) < 0) = True := by decide
        have z3 : ((0 : Int32) ≤ -1) = False := by decide
        show pm_V X (d' + 49) 187 0 [some (.ref 82), some (.int (nI t)), some (.int (-1)), some (.int n), none] [] (pm_S0 ++ g, _, _) _
        simp only [e_M_tape_0, e_M_tape_1, e_M_tape_2, e_M_tape_5, e_M_tape_8, e_M_tape_9, e_M_tape_10, e_M_tape_11, e_M_tape_12, e_M_tape_13, e_M_tape_14, e_M_tape_17, e_M_tape_20, e_M_tape_21, e_M_tape_24, e_M_tape_25, e_M_tape_27, e_M_tape_30, e_M_tape_32, e_M_tape_33, e_M_tape_34, e_M_tape_37, e_M_tape_38, e_M_tape_41, e_M_tape_43, e_M_tape_44, e_M_tape_45, e_M_tape_48, e_M_tape_49, e_M_tape_50, e_M_tape_51, e_M_tape_52, e_M_tape_55, e_M_tape_56, e_M_tape_57, e_M_tape_60, e_M_tape_61, e_M_tape_64, e_M_tape_65, e_M_tape_66, e_M_tape_67, e_M_tape_71, e_M_tape_73, e_M_tape_76, e_M_tape_77, e_M_tape_80, e_M_tape_82, e_M_tape_83, e_M_tape_84, e_M_tape_86, e_M_tape_87, e_M_tape_88, e_M_tape_89, e_M_tape_92, e_M_tape_95, e_M_tape_96, sh_o_82, K_M_isTape, K_M_in, eq_true ha, z1, z2, z3, sh_r_82_55, sh_r_82_56, sh_w_119, sh_w_120, bt, ct, pm_opt_some, pm_opt_none, pm_opt_if, Bool.false_eq_true, Bool.not_false, Bool.not_true, if_false, if_true, true_and, and_true, true_or, or_true, not_true_eq_false, not_false_eq_true, q10, q00, q01, q11, pk_v, pk_i, pk_l, pk_r]
        rw [M_tape_loop ht', ne]
      · exact Rel_tape hR (fun q h h1 h2 => tape_fr ht' h h1 h2) (RT_become ht' (m := 0) (by omega) rfl (Or.inl ⟨rfl, rfl⟩) hR.2.2.2.2.2.2.2)
    · by_cases hs4 : 0 ≤ s ∧ s ≤ 4
      · obtain ⟨m, hm, rfl⟩ := in_of (m := 4) rfl hs4
        have z1 : ((-1 : Int32) ≤ nI m ∧ nI m ≤ 4) = True := by
          refine eq_true ⟨?_, hs4.2⟩
          have := hs4.1
          rw [i_le] at this ⊢
          rw [k0] at this
          rw [show (-1 : Int32).toInt = -1 from rfl]
          omega
        have z2 : (nI m < 0) = False := eq_false (Int32.not_lt.mpr hs4.1)
        have z3 : ((0 : Int32) ≤ nI m) = True := eq_true hs4.1
        by_cases hn : n ≤ 60
        · by_cases h0 : 0 ≤ n
          · obtain ⟨u, hu, rfl⟩ := in_of (m := 60) rfl ⟨h0, hn⟩
            refine ⟨.int 1, g, pm_w (pm_w I (70 + 2 * t) 0 (nI m)) (70 + 2 * t) 1 (nI u), (pm_upJ J (71 + 2 * t) (fun i => if i < 60 then 0 else J (71 + 2 * t) i)), pm_w (pm_w (pm_w (pm_w I (70 + 2 * t) 0 (nI m)) (70 + 2 * t) 1 (nI u)) 119 t (nI m)) 120 t (nI u), pm_upJ (pm_upJ J (71 + 2 * t) (fun i => if i < 60 then 0 else J (71 + 2 * t) i)) 121 (fun i => if 60 * t ≤ i ∧ i < 60 * t + 60 then 0 else J 121 i), ?_, Or.inl rfl, rfl, K50 fun d' => ?_, K50 fun d' => ?_⟩
            rotate_left
            · show pm_V X (d' + 49) 32 0 [some (.ref 0), some (.int (nI t)), some (.int (nI m)), some (.int (nI u))] [] (pm_S0 ++ g, I, J) _
              simp only [e_B_tape_0, e_B_tape_1, e_B_tape_4, e_B_tape_7, e_B_tape_8, e_B_tape_9, e_B_tape_10, e_B_tape_11, e_B_tape_14, e_B_tape_15, e_B_tape_18, e_B_tape_19, e_B_tape_20, e_B_tape_21, e_B_tape_22, e_B_tape_25, e_B_tape_26, e_B_tape_27, e_B_tape_28, e_B_tape_29, e_B_tape_30, e_B_tape_33, e_B_tape_36, e_B_tape_37, e_B_tape_39, e_B_tape_42, e_B_tape_44, e_B_tape_45, e_B_tape_46, e_B_tape_49, e_B_tape_51, e_B_tape_52, e_B_tape_53, e_B_tape_56, e_B_tape_57, e_B_tape_58, e_B_tape_59, e_B_tape_60, e_B_tape_63, e_B_tape_64, K_B_isTape, K_B_isWithin, eq_true ha, eq_false hs, eq_true hs4, hn, h0, sh_r_0_8, tp_a ht', tp_o ht', K_T_become ht', pm_opt_some, pm_opt_none, pm_opt_if, Bool.false_eq_true, Bool.not_false, Bool.not_true, if_false, if_true, true_and, and_true, true_or, or_true, not_true_eq_false, not_false_eq_true, q10, q00, q01, q11, pk_v, pk_i, pk_l, pk_r]
            · show pm_V X (d' + 49) 187 0 [some (.ref 82), some (.int (nI t)), some (.int (nI m)), some (.int (nI u)), none] [] (pm_S0 ++ g, _, _) _
              simp only [e_M_tape_0, e_M_tape_1, e_M_tape_2, e_M_tape_5, e_M_tape_8, e_M_tape_9, e_M_tape_10, e_M_tape_11, e_M_tape_12, e_M_tape_13, e_M_tape_14, e_M_tape_17, e_M_tape_20, e_M_tape_21, e_M_tape_24, e_M_tape_25, e_M_tape_27, e_M_tape_30, e_M_tape_32, e_M_tape_33, e_M_tape_34, e_M_tape_37, e_M_tape_38, e_M_tape_41, e_M_tape_43, e_M_tape_44, e_M_tape_45, e_M_tape_48, e_M_tape_49, e_M_tape_50, e_M_tape_51, e_M_tape_52, e_M_tape_55, e_M_tape_56, e_M_tape_57, e_M_tape_60, e_M_tape_61, e_M_tape_64, e_M_tape_65, e_M_tape_66, e_M_tape_67, e_M_tape_71, e_M_tape_73, e_M_tape_76, e_M_tape_77, e_M_tape_80, e_M_tape_82, e_M_tape_83, e_M_tape_84, e_M_tape_86, e_M_tape_87, e_M_tape_88, e_M_tape_89, e_M_tape_92, e_M_tape_95, e_M_tape_96, sh_o_82, K_M_isTape, K_M_in, eq_true ha, z1, z2, z3, hn, h0, sh_r_82_55, sh_r_82_56, sh_w_119, sh_w_120, bt, ct, pm_opt_some, pm_opt_none, pm_opt_if, Bool.false_eq_true, Bool.not_false, Bool.not_true, if_false, if_true, true_and, and_true, true_or, or_true, not_true_eq_false, not_false_eq_true, q10, q00, q01, q11, pk_v, pk_i, pk_l, pk_r]
              rw [M_tape_loop ht', ne]
            · exact Rel_tape hR (fun q h h1 h2 => tape_fr ht' h h1 h2) (RT_become ht' hu rfl (Or.inr ⟨m, hm, rfl⟩) hR.2.2.2.2.2.2.2)
          · refine Pair_q (v := .int (-14)) hR ⟨I, sfr_rf, K50 fun d' => ?_⟩ (fun I1 h1 hR1 => ⟨I1, sfr_rf, K50 fun d' => ?_⟩)
            · show pm_V X (d' + 49) 32 0 [some (.ref 0), some (.int (nI t)), some (.int (nI m)), some (.int n)] [] (pm_S0 ++ g, I, J) _
              simp only [e_B_tape_0, e_B_tape_1, e_B_tape_4, e_B_tape_7, e_B_tape_8, e_B_tape_9, e_B_tape_10, e_B_tape_11, e_B_tape_14, e_B_tape_15, e_B_tape_18, e_B_tape_19, e_B_tape_20, e_B_tape_21, e_B_tape_22, e_B_tape_25, e_B_tape_26, e_B_tape_27, e_B_tape_28, e_B_tape_29, e_B_tape_30, e_B_tape_33, e_B_tape_36, e_B_tape_37, e_B_tape_39, e_B_tape_42, e_B_tape_44, e_B_tape_45, e_B_tape_46, e_B_tape_49, e_B_tape_51, e_B_tape_52, e_B_tape_53, e_B_tape_56, e_B_tape_57, e_B_tape_58, e_B_tape_59, e_B_tape_60, e_B_tape_63, e_B_tape_64, K_B_isTape, K_B_isWithin, eq_true ha, eq_false hs, eq_true hs4, hn, h0, pm_opt_some, pm_opt_none, pm_opt_if, Bool.false_eq_true, Bool.not_false, Bool.not_true, if_false, if_true, true_and, and_true, true_or, or_true, not_true_eq_false, not_false_eq_true, q10, q00, q01, q11, pk_v, pk_i, pk_l, pk_r]
            · show pm_V X (d' + 49) 187 0 [some (.ref 82), some (.int (nI t)), some (.int (nI m)), some (.int n), none] [] (pm_S0 ++ g, I1, J) _
              simp only [e_M_tape_0, e_M_tape_1, e_M_tape_2, e_M_tape_5, e_M_tape_8, e_M_tape_9, e_M_tape_10, e_M_tape_11, e_M_tape_12, e_M_tape_13, e_M_tape_14, e_M_tape_17, e_M_tape_20, e_M_tape_21, e_M_tape_24, e_M_tape_25, e_M_tape_27, e_M_tape_30, e_M_tape_32, e_M_tape_33, e_M_tape_34, e_M_tape_37, e_M_tape_38, e_M_tape_41, e_M_tape_43, e_M_tape_44, e_M_tape_45, e_M_tape_48, e_M_tape_49, e_M_tape_50, e_M_tape_51, e_M_tape_52, e_M_tape_55, e_M_tape_56, e_M_tape_57, e_M_tape_60, e_M_tape_61, e_M_tape_64, e_M_tape_65, e_M_tape_66, e_M_tape_67, e_M_tape_71, e_M_tape_73, e_M_tape_76, e_M_tape_77, e_M_tape_80, e_M_tape_82, e_M_tape_83, e_M_tape_84, e_M_tape_86, e_M_tape_87, e_M_tape_88, e_M_tape_89, e_M_tape_92, e_M_tape_95, e_M_tape_96, sh_o_82, K_M_isTape, K_M_in, eq_true ha, z1, z2, z3, hn, h0, pm_opt_some, pm_opt_none, pm_opt_if, Bool.false_eq_true, Bool.not_false, Bool.not_true, if_false, if_true, true_and, and_true, true_or, or_true, not_true_eq_false, not_false_eq_true, q10, q00, q01, q11, pk_v, pk_i, pk_l, pk_r]
        · refine Pair_q (v := .int (-2)) hR ⟨I, sfr_rf, K50 fun d' => ?_⟩ (fun I1 h1 hR1 => ⟨I1, sfr_rf, K50 fun d' => ?_⟩)
          · show pm_V X (d' + 49) 32 0 [some (.ref 0), some (.int (nI t)), some (.int (nI m)), some (.int n)] [] (pm_S0 ++ g, I, J) _
            simp only [e_B_tape_0, e_B_tape_1, e_B_tape_4, e_B_tape_7, e_B_tape_8, e_B_tape_9, e_B_tape_10, e_B_tape_11, e_B_tape_14, e_B_tape_15, e_B_tape_18, e_B_tape_19, e_B_tape_20, e_B_tape_21, e_B_tape_22, e_B_tape_25, e_B_tape_26, e_B_tape_27, e_B_tape_28, e_B_tape_29, e_B_tape_30, e_B_tape_33, e_B_tape_36, e_B_tape_37, e_B_tape_39, e_B_tape_42, e_B_tape_44, e_B_tape_45, e_B_tape_46, e_B_tape_49, e_B_tape_51, e_B_tape_52, e_B_tape_53, e_B_tape_56, e_B_tape_57, e_B_tape_58, e_B_tape_59, e_B_tape_60, e_B_tape_63, e_B_tape_64, K_B_isTape, K_B_isWithin, eq_true ha, eq_false hs, eq_true hs4, hn, pm_opt_some, pm_opt_none, pm_opt_if, Bool.false_eq_true, Bool.not_false, Bool.not_true, if_false, if_true, true_and, and_true, true_or, or_true, not_true_eq_false, not_false_eq_true, q10, q00, q01, q11, pk_v, pk_i, pk_l, pk_r]
          · show pm_V X (d' + 49) 187 0 [some (.ref 82), some (.int (nI t)), some (.int (nI m)), some (.int n), none] [] (pm_S0 ++ g, I1, J) _
            simp only [e_M_tape_0, e_M_tape_1, e_M_tape_2, e_M_tape_5, e_M_tape_8, e_M_tape_9, e_M_tape_10, e_M_tape_11, e_M_tape_12, e_M_tape_13, e_M_tape_14, e_M_tape_17, e_M_tape_20, e_M_tape_21, e_M_tape_24, e_M_tape_25, e_M_tape_27, e_M_tape_30, e_M_tape_32, e_M_tape_33, e_M_tape_34, e_M_tape_37, e_M_tape_38, e_M_tape_41, e_M_tape_43, e_M_tape_44, e_M_tape_45, e_M_tape_48, e_M_tape_49, e_M_tape_50, e_M_tape_51, e_M_tape_52, e_M_tape_55, e_M_tape_56, e_M_tape_57, e_M_tape_60, e_M_tape_61, e_M_tape_64, e_M_tape_65, e_M_tape_66, e_M_tape_67, e_M_tape_71, e_M_tape_73, e_M_tape_76, e_M_tape_77, e_M_tape_80, e_M_tape_82, e_M_tape_83, e_M_tape_84, e_M_tape_86, e_M_tape_87, e_M_tape_88, e_M_tape_89, e_M_tape_92, e_M_tape_95, e_M_tape_96, sh_o_82, K_M_isTape, K_M_in, eq_true ha, z1, z2, hn, pm_opt_some, pm_opt_none, pm_opt_if, Bool.false_eq_true, Bool.not_false, Bool.not_true, if_false, if_true, true_and, and_true, true_or, or_true, not_true_eq_false, not_false_eq_true, q10, q00, q01, q11, pk_v, pk_i, pk_l, pk_r]
      · have z1 : ((-1 : Int32) ≤ s ∧ s ≤ 4) = False := by
          refine eq_false (fun z => ?_)
          have h1 : ¬ s.toInt = -1 := fun e => hs (i_eq.mpr e)
          rw [i_le, i_le, k0, show (4 : Int32).toInt = 4 from rfl] at hs4
          rw [i_le, i_le, show (-1 : Int32).toInt = -1 from rfl, show (4 : Int32).toInt = 4 from rfl] at z
          omega
        refine Pair_q (v := .int (-2)) hR ⟨I, sfr_rf, K50 fun d' => ?_⟩ (fun I1 h1 hR1 => ⟨I1, sfr_rf, K50 fun d' => ?_⟩)
        · show pm_V X (d' + 49) 32 0 [some (.ref 0), some (.int (nI t)), some (.int s), some (.int n)] [] (pm_S0 ++ g, I, J) _
          simp only [e_B_tape_0, e_B_tape_1, e_B_tape_4, e_B_tape_7, e_B_tape_8, e_B_tape_9, e_B_tape_10, e_B_tape_11, e_B_tape_14, e_B_tape_15, e_B_tape_18, e_B_tape_19, e_B_tape_20, e_B_tape_21, e_B_tape_22, e_B_tape_25, e_B_tape_26, e_B_tape_27, e_B_tape_28, e_B_tape_29, e_B_tape_30, e_B_tape_33, e_B_tape_36, e_B_tape_37, e_B_tape_39, e_B_tape_42, e_B_tape_44, e_B_tape_45, e_B_tape_46, e_B_tape_49, e_B_tape_51, e_B_tape_52, e_B_tape_53, e_B_tape_56, e_B_tape_57, e_B_tape_58, e_B_tape_59, e_B_tape_60, e_B_tape_63, e_B_tape_64, K_B_isTape, K_B_isWithin, eq_true ha, eq_false hs, eq_false hs4, pm_opt_some, pm_opt_none, pm_opt_if, Bool.false_eq_true, Bool.not_false, Bool.not_true, if_false, if_true, true_and, and_true, true_or, or_true, not_true_eq_false, not_false_eq_true, q10, q00, q01, q11, pk_v, pk_i, pk_l, pk_r]
        · show pm_V X (d' + 49) 187 0 [some (.ref 82), some (.int (nI t)), some (.int s), some (.int n), none] [] (pm_S0 ++ g, I1, J) _
          simp only [e_M_tape_0, e_M_tape_1, e_M_tape_2, e_M_tape_5, e_M_tape_8, e_M_tape_9, e_M_tape_10, e_M_tape_11, e_M_tape_12, e_M_tape_13, e_M_tape_14, e_M_tape_17, e_M_tape_20, e_M_tape_21, e_M_tape_24, e_M_tape_25, e_M_tape_27, e_M_tape_30, e_M_tape_32, e_M_tape_33, e_M_tape_34, e_M_tape_37, e_M_tape_38, e_M_tape_41, e_M_tape_43, e_M_tape_44, e_M_tape_45, e_M_tape_48, e_M_tape_49, e_M_tape_50, e_M_tape_51, e_M_tape_52, e_M_tape_55, e_M_tape_56, e_M_tape_57, e_M_tape_60, e_M_tape_61, e_M_tape_64, e_M_tape_65, e_M_tape_66, e_M_tape_67, e_M_tape_71, e_M_tape_73, e_M_tape_76, e_M_tape_77, e_M_tape_80, e_M_tape_82, e_M_tape_83, e_M_tape_84, e_M_tape_86, e_M_tape_87, e_M_tape_88, e_M_tape_89, e_M_tape_92, e_M_tape_95, e_M_tape_96, sh_o_82, K_M_isTape, K_M_in, eq_true ha, z1, pm_opt_some, pm_opt_none, pm_opt_if, Bool.false_eq_true, Bool.not_false, Bool.not_true, if_false, if_true, true_and, and_true, true_or, or_true, not_true_eq_false, not_false_eq_true, q10, q00, q01, q11, pk_v, pk_i, pk_l, pk_r]
  · exact Pair_q (v := .int (-1)) hR ⟨I, sfr_rf, K50 fun d' => by { show pm_V X (d' + 49) 32 0 [some (.ref 0), some (.int a), some (.int s), some (.int n)] [] (pm_S0 ++ g, I, J) _; simp only [e_B_tape_0, e_B_tape_1, e_B_tape_4, e_B_tape_7, e_B_tape_8, e_B_tape_9, e_B_tape_10, e_B_tape_11, e_B_tape_14, e_B_tape_15, e_B_tape_18, e_B_tape_19, e_B_tape_20, e_B_tape_21, e_B_tape_22, e_B_tape_25, e_B_tape_26, e_B_tape_27, e_B_tape_28, e_B_tape_29, e_B_tape_30, e_B_tape_33, e_B_tape_36, e_B_tape_37, e_B_tape_39, e_B_tape_42, e_B_tape_44, e_B_tape_45, e_B_tape_46, e_B_tape_49, e_B_tape_51, e_B_tape_52, e_B_tape_53, e_B_tape_56, e_B_tape_57, e_B_tape_58, e_B_tape_59, e_B_tape_60, e_B_tape_63, e_B_tape_64, K_B_isCell, K_B_isWithin, K_B_isTape, K_B_isKind, eq_false ha, pm_opt_some, pm_opt_none, pm_opt_if, Bool.false_eq_true, Bool.not_false, Bool.not_true, if_false, if_true, true_and, and_true, true_or, or_true, not_true_eq_false, not_false_eq_true, q10, q00, q01, q11, pk_v, pk_i, pk_l, pk_r] }⟩ (fun I1 h1 hR1 => ⟨I1, sfr_rf, K50 fun d' => by { show pm_V X (d' + 49) 187 0 [some (.ref 82), some (.int a), some (.int s), some (.int n), none] [] (pm_S0 ++ g, I1, J) _; simp only [e_M_tape_0, e_M_tape_1, e_M_tape_2, e_M_tape_5, e_M_tape_8, e_M_tape_9, e_M_tape_10, e_M_tape_11, e_M_tape_12, e_M_tape_13, e_M_tape_14, e_M_tape_17, e_M_tape_20, e_M_tape_21, e_M_tape_24, e_M_tape_25, e_M_tape_27, e_M_tape_30, e_M_tape_32, e_M_tape_33, e_M_tape_34, e_M_tape_37, e_M_tape_38, e_M_tape_41, e_M_tape_43, e_M_tape_44, e_M_tape_45, e_M_tape_48, e_M_tape_49, e_M_tape_50, e_M_tape_51, e_M_tape_52, e_M_tape_55, e_M_tape_56, e_M_tape_57, e_M_tape_60, e_M_tape_61, e_M_tape_64, e_M_tape_65, e_M_tape_66, e_M_tape_67, e_M_tape_69, e_M_tape_71, e_M_tape_73, e_M_tape_76, e_M_tape_77, e_M_tape_80, e_M_tape_82, e_M_tape_83, e_M_tape_84, e_M_tape_86, e_M_tape_87, e_M_tape_88, e_M_tape_89, e_M_tape_92, e_M_tape_95, e_M_tape_96, sh_o_82, K_M_isCell, K_M_in, K_M_isTape, eq_false ha, pm_opt_some, pm_opt_none, pm_opt_if, Bool.false_eq_true, Bool.not_false, Bool.not_true, if_false, if_true, true_and, and_true, true_or, or_true, not_true_eq_false, not_false_eq_true, q10, q00, q01, q11, pk_v, pk_i, pk_l, pk_r] }⟩)
/-- an item, as its sort holds it -/
def fitL (s : Int32) (v : Int64) : Int64 := if s = 0 then v.toInt32.toInt8.toInt32.toInt64 else if s = 1 then v.toInt32.toInt16.toInt32.toInt64 else if s = 2 then v.toInt32.toInt64 else if s = 4 then (if lg_cmp v 0 = 0 then 0 else 1) else v
theorem fitL_4 : fitL 4 v = if lg_cmp v 0 = 0 then 0 else 1 := by
  unfold fitL
  rw [if_neg (show ¬ (4 : Int32) = 0 by decide), if_neg (show ¬ (4 : Int32) = 1 by decide), if_neg (show ¬ (4 : Int32) = 2 by decide), if_pos rfl]
theorem K_T_fitting {m : Nat} (hm : m ≤ 4) (ht : t < 6) (hs : I (70 + 2 * t) 0 = nI m) : pm_cl X (d + 1) 84 [.ref (70 + 2 * t), .long v] (pm_S0 ++ g, I, J) P = P (some (.long (fitL (nI m) v)), (pm_S0 ++ g, I, J)) := by
  refine K_of (k := 0) (fun d' => ?_)
  show pm_V X d' 84 0 [some (.ref (70 + 2 * t)), some (.long v), none] [] (pm_S0 ++ g, I, J) _
  match m, hm with
  | 0, _ =>
    simp only [e_T_fitting_0, e_T_fitting_1, e_T_fitting_4_c0, e_T_fitting_4_c1, e_T_fitting_4_c2, e_T_fitting_4_c3, e_T_fitting_4_c4, e_T_fitting_4_d, e_T_fitting_40, e_T_fitting_41, e_T_fitting_42, e_T_fitting_43, e_T_fitting_44, e_T_fitting_45, e_T_fitting_46, e_T_fitting_47, e_T_fitting_48, e_T_fitting_49, e_T_fitting_50, e_T_fitting_51, e_T_fitting_52, e_T_fitting_53, e_T_fitting_54, e_T_fitting_55, e_T_fitting_56, e_T_fitting_57, e_T_fitting_60, e_T_fitting_61, e_T_fitting_64, e_T_fitting_65, e_T_fitting_66, e_T_fitting_67, tp_o ht, hs, show nI 0 = 0 from rfl, pm_opt_some, pm_opt_none, pm_opt_if, Bool.false_eq_true, Bool.not_false, Bool.not_true, if_false, if_true, true_and, and_true, true_or, or_true, not_true_eq_false, not_false_eq_true, q10, q00, q01, q11, pk_v, pk_i, pk_l, pk_r]
    rfl
  | 1, _ =>
    simp only [e_T_fitting_0, e_T_fitting_1, e_T_fitting_4_c0, e_T_fitting_4_c1, e_T_fitting_4_c2, e_T_fitting_4_c3, e_T_fitting_4_c4, e_T_fitting_4_d, e_T_fitting_40, e_T_fitting_41, e_T_fitting_42, e_T_fitting_43, e_T_fitting_44, e_T_fitting_45, e_T_fitting_46, e_T_fitting_47, e_T_fitting_48, e_T_fitting_49, e_T_fitting_50, e_T_fitting_51, e_T_fitting_52, e_T_fitting_53, e_T_fitting_54, e_T_fitting_55, e_T_fitting_56, e_T_fitting_57, e_T_fitting_60, e_T_fitting_61, e_T_fitting_64, e_T_fitting_65, e_T_fitting_66, e_T_fitting_67, tp_o ht, hs, show nI 1 = 1 from rfl, pm_opt_some, pm_opt_none, pm_opt_if, Bool.false_eq_true, Bool.not_false, Bool.not_true, if_false, if_true, true_and, and_true, true_or, or_true, not_true_eq_false, not_false_eq_true, q10, q00, q01, q11, pk_v, pk_i, pk_l, pk_r]
    rfl
  | 2, _ =>
    simp only [e_T_fitting_0, e_T_fitting_1, e_T_fitting_4_c0, e_T_fitting_4_c1, e_T_fitting_4_c2, e_T_fitting_4_c3, e_T_fitting_4_c4, e_T_fitting_4_d, e_T_fitting_40, e_T_fitting_41, e_T_fitting_42, e_T_fitting_43, e_T_fitting_44, e_T_fitting_45, e_T_fitting_46, e_T_fitting_47, e_T_fitting_48, e_T_fitting_49, e_T_fitting_50, e_T_fitting_51, e_T_fitting_52, e_T_fitting_53, e_T_fitting_54, e_T_fitting_55, e_T_fitting_56, e_T_fitting_57, e_T_fitting_60, e_T_fitting_61, e_T_fitting_64, e_T_fitting_65, e_T_fitting_66, e_T_fitting_67, tp_o ht, hs, show nI 2 = 2 from rfl, pm_opt_some, pm_opt_none, pm_opt_if, Bool.false_eq_true, Bool.not_false, Bool.not_true, if_false, if_true, true_and, and_true, true_or, or_true, not_true_eq_false, not_false_eq_true, q10, q00, q01, q11, pk_v, pk_i, pk_l, pk_r]
    rfl
  | 3, _ =>
    simp only [e_T_fitting_0, e_T_fitting_1, e_T_fitting_4_c0, e_T_fitting_4_c1, e_T_fitting_4_c2, e_T_fitting_4_c3, e_T_fitting_4_c4, e_T_fitting_4_d, e_T_fitting_40, e_T_fitting_41, e_T_fitting_42, e_T_fitting_43, e_T_fitting_44, e_T_fitting_45, e_T_fitting_46, e_T_fitting_47, e_T_fitting_48, e_T_fitting_49, e_T_fitting_50, e_T_fitting_51, e_T_fitting_52, e_T_fitting_53, e_T_fitting_54, e_T_fitting_55, e_T_fitting_56, e_T_fitting_57, e_T_fitting_60, e_T_fitting_61, e_T_fitting_64, e_T_fitting_65, e_T_fitting_66, e_T_fitting_67, tp_o ht, hs, show nI 3 = 3 from rfl, pm_opt_some, pm_opt_none, pm_opt_if, Bool.false_eq_true, Bool.not_false, Bool.not_true, if_false, if_true, true_and, and_true, true_or, or_true, not_true_eq_false, not_false_eq_true, q10, q00, q01, q11, pk_v, pk_i, pk_l, pk_r]
    rfl
  | 4, _ =>
    simp only [e_T_fitting_0, e_T_fitting_1, e_T_fitting_4_c0, e_T_fitting_4_c1, e_T_fitting_4_c2, e_T_fitting_4_c3, e_T_fitting_4_c4, e_T_fitting_4_d, e_T_fitting_40, e_T_fitting_41, e_T_fitting_42, e_T_fitting_43, e_T_fitting_44, e_T_fitting_45, e_T_fitting_46, e_T_fitting_47, e_T_fitting_48, e_T_fitting_49, e_T_fitting_50, e_T_fitting_51, e_T_fitting_52, e_T_fitting_53, e_T_fitting_54, e_T_fitting_55, e_T_fitting_56, e_T_fitting_57, e_T_fitting_60, e_T_fitting_61, e_T_fitting_64, e_T_fitting_65, e_T_fitting_66, e_T_fitting_67, tp_o ht, hs, show nI 4 = 4 from rfl, pm_opt_some, pm_opt_none, pm_opt_if, Bool.false_eq_true, Bool.not_false, Bool.not_true, if_false, if_true, true_and, and_true, true_or, or_true, not_true_eq_false, not_false_eq_true, q10, q00, q01, q11, pk_v, pk_i, pk_l, pk_r]
    rw [fitL_4]
    by_cases q : lg_cmp v 0 = 0
    · rw [if_pos q, if_pos q]
    · rw [if_neg q, if_neg q]
theorem K_M_narrow {m : Nat} (hm : m ≤ 4) : pm_cl X (d + 1) 188 [.ref 82, .int (nI m), .long v] (pm_S0 ++ g, I, J) P = P (some (.long (fitL (nI m) v)), (pm_S0 ++ g, I, J)) := by
  refine K_of (k := 0) (fun d' => ?_)
  show pm_V X d' 188 0 [some (.ref 82), some (.int (nI m)), some (.long v), none] [] (pm_S0 ++ g, I, J) _
  match m, hm with
  | 0, _ =>
    simp only [e_M_narrow_0, e_M_narrow_1, e_M_narrow_4, e_M_narrow_5, e_M_narrow_6, e_M_narrow_7, e_M_narrow_8, e_M_narrow_11, e_M_narrow_12, e_M_narrow_13, e_M_narrow_16, e_M_narrow_17, e_M_narrow_18, e_M_narrow_19, e_M_narrow_20, e_M_narrow_23, e_M_narrow_24, e_M_narrow_25, e_M_narrow_28, e_M_narrow_29, e_M_narrow_30, e_M_narrow_31, e_M_narrow_34, e_M_narrow_35, e_M_narrow_36, e_M_narrow_39, e_M_narrow_40, e_M_narrow_41, e_M_narrow_42, e_M_narrow_45, e_M_narrow_46, e_M_narrow_49, e_M_narrow_50, e_M_narrow_53, e_M_narrow_54, show nI 0 = 0 from rfl, pm_opt_some, pm_opt_none, pm_opt_if, Bool.false_eq_true, Bool.not_false, Bool.not_true, if_false, if_true, true_and, and_true, true_or, or_true, not_true_eq_false, not_false_eq_true, q10, q00, q01, q11, pk_v, pk_i, pk_l, pk_r]
    rfl
  | 1, _ =>
    simp only [e_M_narrow_0, e_M_narrow_1, e_M_narrow_4, e_M_narrow_5, e_M_narrow_6, e_M_narrow_7, e_M_narrow_8, e_M_narrow_11, e_M_narrow_12, e_M_narrow_13, e_M_narrow_16, e_M_narrow_17, e_M_narrow_18, e_M_narrow_19, e_M_narrow_20, e_M_narrow_23, e_M_narrow_24, e_M_narrow_25, e_M_narrow_28, e_M_narrow_29, e_M_narrow_30, e_M_narrow_31, e_M_narrow_34, e_M_narrow_35, e_M_narrow_36, e_M_narrow_39, e_M_narrow_40, e_M_narrow_41, e_M_narrow_42, e_M_narrow_45, e_M_narrow_46, e_M_narrow_49, e_M_narrow_50, e_M_narrow_53, e_M_narrow_54, show nI 1 = 1 from rfl, pm_opt_some, pm_opt_none, pm_opt_if, Bool.false_eq_true, Bool.not_false, Bool.not_true, if_false, if_true, true_and, and_true, true_or, or_true, not_true_eq_false, not_false_eq_true, q10, q00, q01, q11, pk_v, pk_i, pk_l, pk_r]
    rfl
  | 2, _ =>
    simp only [e_M_narrow_0, e_M_narrow_1, e_M_narrow_4, e_M_narrow_5, e_M_narrow_6, e_M_narrow_7, e_M_narrow_8, e_M_narrow_11, e_M_narrow_12, e_M_narrow_13, e_M_narrow_16, e_M_narrow_17, e_M_narrow_18, e_M_narrow_19, e_M_narrow_20, e_M_narrow_23, e_M_narrow_24, e_M_narrow_25, e_M_narrow_28, e_M_narrow_29, e_M_narrow_30, e_M_narrow_31, e_M_narrow_34, e_M_narrow_35, e_M_narrow_36, e_M_narrow_39, e_M_narrow_40, e_M_narrow_41, e_M_narrow_42, e_M_narrow_45, e_M_narrow_46, e_M_narrow_49, e_M_narrow_50, e_M_narrow_53, e_M_narrow_54, show nI 2 = 2 from rfl, show ¬ (2 : Int32) = 0 by decide, show ¬ (2 : Int32) = 1 by decide, pm_opt_some, pm_opt_none, pm_opt_if, Bool.false_eq_true, Bool.not_false, Bool.not_true, if_false, if_true, true_and, and_true, true_or, or_true, not_true_eq_false, not_false_eq_true, q10, q00, q01, q11, pk_v, pk_i, pk_l, pk_r]
    rfl
  | 3, _ =>
    simp only [e_M_narrow_0, e_M_narrow_1, e_M_narrow_4, e_M_narrow_5, e_M_narrow_6, e_M_narrow_7, e_M_narrow_8, e_M_narrow_11, e_M_narrow_12, e_M_narrow_13, e_M_narrow_16, e_M_narrow_17, e_M_narrow_18, e_M_narrow_19, e_M_narrow_20, e_M_narrow_23, e_M_narrow_24, e_M_narrow_25, e_M_narrow_28, e_M_narrow_29, e_M_narrow_30, e_M_narrow_31, e_M_narrow_34, e_M_narrow_35, e_M_narrow_36, e_M_narrow_39, e_M_narrow_40, e_M_narrow_41, e_M_narrow_42, e_M_narrow_45, e_M_narrow_46, e_M_narrow_49, e_M_narrow_50, e_M_narrow_53, e_M_narrow_54, show nI 3 = 3 from rfl, show ¬ (3 : Int32) = 0 by decide, show ¬ (3 : Int32) = 1 by decide, show ¬ (3 : Int32) = 2 by decide, show ¬ (3 : Int32) = 4 by decide, pm_opt_some, pm_opt_none, pm_opt_if, Bool.false_eq_true, Bool.not_false, Bool.not_true, if_false, if_true, true_and, and_true, true_or, or_true, not_true_eq_false, not_false_eq_true, q10, q00, q01, q11, pk_v, pk_i, pk_l, pk_r]
    rfl
  | 4, _ =>
    simp only [e_M_narrow_0, e_M_narrow_1, e_M_narrow_4, e_M_narrow_5, e_M_narrow_6, e_M_narrow_7, e_M_narrow_8, e_M_narrow_11, e_M_narrow_12, e_M_narrow_13, e_M_narrow_16, e_M_narrow_17, e_M_narrow_18, e_M_narrow_19, e_M_narrow_20, e_M_narrow_23, e_M_narrow_24, e_M_narrow_25, e_M_narrow_28, e_M_narrow_29, e_M_narrow_30, e_M_narrow_31, e_M_narrow_34, e_M_narrow_35, e_M_narrow_36, e_M_narrow_39, e_M_narrow_40, e_M_narrow_41, e_M_narrow_42, e_M_narrow_45, e_M_narrow_46, e_M_narrow_49, e_M_narrow_50, e_M_narrow_53, e_M_narrow_54, show nI 4 = 4 from rfl, show ¬ (4 : Int32) = 0 by decide, show ¬ (4 : Int32) = 1 by decide, show ¬ (4 : Int32) = 2 by decide, pm_opt_some, pm_opt_none, pm_opt_if, Bool.false_eq_true, Bool.not_false, Bool.not_true, if_false, if_true, true_and, and_true, true_or, or_true, not_true_eq_false, not_false_eq_true, q10, q00, q01, q11, pk_v, pk_i, pk_l, pk_r]
    rw [fitL_4]
    by_cases q : lg_cmp v 0 = 0
    · rw [if_pos q, if_pos q]
    · rw [if_neg q, if_neg q]
end P45
