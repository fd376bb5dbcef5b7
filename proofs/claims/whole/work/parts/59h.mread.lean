/-! the parser: the reference's small methods -/
/-- the reference's cells while it reads -/
def MHp (I : Nat → Nat → Int32) (p : Nat) (dg : Int32) (sg wt op : Nat) (A S T : Nat → Int32) : Nat → Nat → Int32 := fun q i => if q = 82 then (if i = 12 then nI p else if i = 13 then dg else if i = 22 then nI sg else if i = 23 then nI wt else if i = 24 then nI op else I 82 i) else if q = 97 then A i else if q = 96 then S i else if q = 95 then T i else I q i
def RM (I : Nat → Nat → Int32) (n : Nat) : Prop := I 82 11 = nI n ∧ n ≤ 100
/-- the signs that leave a pile from its top -/
def emS (A : Nat → Int32) (a : Nat) : Nat → List Int32
  | 0 => []
  | k + 1 => (-A (a + k)) :: emS A a k
section P77
variable {X : pm_X} {d : Nat} {P Q : pm_O → Prop} {g : List pm_S} {I I' : Nat → Nat → Int32} {J : Nat → Nat → Int64} {a i j n k p sg wt op s m v : Nat} {b c x y dg : Int32} {t : List Nat} {A S T : Nat → Int32}
theorem MH_12 : MHp I p dg sg wt op A S T 82 12 = nI p := rfl
theorem MH_13 : MHp I p dg sg wt op A S T 82 13 = dg := rfl
theorem MH_22 : MHp I p dg sg wt op A S T 82 22 = nI sg := rfl
theorem MH_23 : MHp I p dg sg wt op A S T 82 23 = nI wt := rfl
theorem MH_24 : MHp I p dg sg wt op A S T 82 24 = nI op := rfl
theorem MH_11 : MHp I p dg sg wt op A S T 82 11 = I 82 11 := rfl
theorem MH_97 : MHp I p dg sg wt op A S T 97 = A := rfl
theorem MH_96 : MHp I p dg sg wt op A S T 96 = S := rfl
theorem MH_95 : MHp I p dg sg wt op A S T 95 = T := rfl
theorem MH_90 : MHp I p dg sg wt op A S T 90 = I 90 := rfl
theorem MH_q (h : ¬ i = 82) (h1 : ¬ i = 97) (h2 : ¬ i = 96) (h3 : ¬ i = 95) : MHp I p dg sg wt op A S T i = I i := by
  funext k
  unfold MHp
  rw [if_neg h, if_neg h1, if_neg h2, if_neg h3]
theorem MH_wf {f : Nat → Int32} {v : Int32} {p' sg' wt' op' : Nat} {dg' : Int32} (k : Nat) (h : ∀ i, (if i = k then v else MHp I p dg sg wt op A S T 82 i) = MHp I p' dg' sg' wt' op' A S T 82 i) : pm_w (MHp I p dg sg wt op A S T) 82 k v = MHp I p' dg' sg' wt' op' A S T := by
  funext q i
  rw [pm_w_app]
  by_cases e : q = 82
  · subst e
    have := h i
    simp only [true_and]
    exact this
  · simp only [e, false_and, if_false]
    unfold MHp
    rw [if_neg e, if_neg e]
theorem MH_w12 : pm_w (MHp I p dg sg wt op A S T) 82 12 (nI k) = MHp I k dg sg wt op A S T := MH_wf (f := A) 12 (fun i => by
  unfold MHp
  by_cases e : i = 12
  · simp [e]
  · simp [e])
theorem MH_w13 : pm_w (MHp I p dg sg wt op A S T) 82 13 x = MHp I p x sg wt op A S T := MH_wf (f := A) 13 (fun i => by
  unfold MHp
  by_cases e : i = 13
  · simp [e]
  · simp [e])
theorem MH_w22 : pm_w (MHp I p dg sg wt op A S T) 82 22 (nI k) = MHp I p dg k wt op A S T := MH_wf (f := A) 22 (fun i => by
  unfold MHp
  by_cases e : i = 22
  · simp [e]
  · simp [e])
theorem MH_w23 : pm_w (MHp I p dg sg wt op A S T) 82 23 (nI k) = MHp I p dg sg k op A S T := MH_wf (f := A) 23 (fun i => by
  unfold MHp
  by_cases e : i = 23
  · simp [e]
  · simp [e])
theorem MH_w24 : pm_w (MHp I p dg sg wt op A S T) 82 24 (nI k) = MHp I p dg sg wt k A S T := MH_wf (f := A) 24 (fun i => by
  unfold MHp
  by_cases e : i = 24
  · simp [e]
  · simp [e])
theorem MH_w97 : pm_w (MHp I p dg sg wt op A S T) 97 k x = MHp I p dg sg wt op (upd A k x) S T := by
  funext q i
  rw [pm_w_app]
  unfold MHp
  by_cases e : q = 97
  · subst e
    simp only [upd_app, true_and, Nat.reduceEqDiff, if_false, if_true]
  · simp only [e, false_and, if_false]
theorem MH_w96 : pm_w (MHp I p dg sg wt op A S T) 96 k x = MHp I p dg sg wt op A (upd S k x) T := by
  funext q i
  rw [pm_w_app]
  unfold MHp
  by_cases e : q = 96
  · subst e
    simp only [upd_app, true_and, Nat.reduceEqDiff, if_false, if_true]
  · simp only [e, false_and, if_false]
theorem MH_w95 : pm_w (MHp I p dg sg wt op A S T) 95 k x = MHp I p dg sg wt op A S (upd T k x) := by
  funext q i
  rw [pm_w_app]
  unfold MHp
  by_cases e : q = 95
  · subst e
    simp only [upd_app, true_and, Nat.reduceEqDiff, if_false, if_true]
  · simp only [e, false_and, if_false]
theorem MH_wq (h : ¬ i = 82) (h1 : ¬ i = 97) (h2 : ¬ i = 96) (h3 : ¬ i = 95) : pm_w (MHp I p dg sg wt op A S T) i k x = MHp (pm_w I i k x) p dg sg wt op A S T := by
  funext q j
  rw [pm_w_app]
  unfold MHp
  by_cases e : q = i
  · subst e
    simp only [h, h1, h2, h3, if_false, true_and, pm_w_app]
  · have e2 : ∀ j, pm_w I i k x q j = I q j := fun j => by rw [pw_ne e]
    have e3 : ∀ j, pm_w I i k x 82 j = I 82 j := fun j => by rw [pw_ne (fun z => h z.symm)]
    simp only [e, false_and, if_false, e2, e3]
theorem m1s : nI (k + 1) - 1 = nI k := by
  rw [Int32.sub_eq_add_neg]
  exact pk_m1 k
theorem K_M_next (h : RM I n) (hp : p ≤ n) : pm_cl X (d + 1) 118 [.ref 82] (pm_S0 ++ g, MHp I p dg sg wt op A S T, J) P = P (some (.int (nxT (I 90) n p)), (pm_S0 ++ g, MHp I p dg sg wt op A S T, J)) := by
  obtain ⟨h1, hn⟩ := h
  refine K_of (k := 0) (fun d' => ?_)
  show pm_V X d' 118 0 [some (.ref 82)] [] (pm_S0 ++ g, MHp I p dg sg wt op A S T, J) _
  unfold nxT
  by_cases q : p < n
  · have hl : (nI n ≤ nI p) = False := by
      rw [nI_le_l (by omega) (by omega)]
      exact eq_false (by omega)
    have hb := bad_nI (k := p) (n := 100) (by omega) (by decide)
    have hc := nI_clamp (n := p) (by omega)
    simp only [e_M_next_0, e_M_next_1, e_M_next_4, e_M_next_5, e_M_next_8, e_M_next_11, e_M_next_12, e_M_next_15, e_M_next_16, e_M_next_19, e_M_next_20, e_M_next_23, e_M_next_24, sh_o_82, sh_r_82_14, sh_i_90, MH_12, MH_11, MH_90, h1, hl, hb, hc, q, pm_opt_some, pm_opt_none, pm_opt_if, Bool.false_eq_true, Bool.not_false, Bool.not_true, if_false, if_true, true_and, and_true, true_or, or_true, not_true_eq_false, not_false_eq_true, q10, q00, q01, q11, pk_v, pk_i, pk_l, pk_r]
  · have hl : (nI n ≤ nI p) = True := by
      rw [nI_le_l (by omega) (by omega)]
      exact eq_true (by omega)
    simp only [e_M_next_0, e_M_next_1, e_M_next_4, e_M_next_5, e_M_next_8, e_M_next_12, e_M_next_15, e_M_next_16, e_M_next_19, e_M_next_20, e_M_next_23, e_M_next_24, sh_o_82, MH_12, MH_11, h1, hl, q, pm_opt_some, pm_opt_none, pm_opt_if, Bool.false_eq_true, Bool.not_false, Bool.not_true, if_false, if_true, true_and, and_true, true_or, or_true, not_true_eq_false, not_false_eq_true, q10, q00, q01, q11, pk_v, pk_i, pk_l, pk_r]
theorem K_M_takes (h : RM I n) (hp : p ≤ n) : pm_cl X (d + 2) 119 [.ref 82, .int c] (pm_S0 ++ g, MHp I p dg sg wt op A S T, J) P = if nxT (I 90) n p = c then P (some (.int 1), (pm_S0 ++ g, MHp I (p + 1) dg sg wt op A S T, J)) else P (some (.int 0), (pm_S0 ++ g, MHp I p dg sg wt op A S T, J)) := by
  refine K_if (k := 1) (fun hq d' => ?_) (fun hq d' => ?_)
  · show pm_V X (d' + 1) 119 0 [some (.ref 82), some (.int c)] [] (pm_S0 ++ g, MHp I p dg sg wt op A S T, J) _
    simp only [e_M_takes_0, e_M_takes_1, e_M_takes_4, e_M_takes_5, e_M_takes_8, e_M_takes_9, e_M_takes_10, e_M_takes_11, e_M_takes_12, e_M_takes_15, e_M_takes_16, e_M_takes_17, e_M_takes_20, e_M_takes_21, sh_o_82, K_M_next h hp, hq, MH_12, nI_1, MH_w12, pm_opt_some, pm_opt_none, pm_opt_if, Bool.false_eq_true, Bool.not_false, Bool.not_true, if_false, if_true, true_and, and_true, true_or, or_true, not_true_eq_false, not_false_eq_true, q10, q00, q01, q11, pk_v, pk_i, pk_l, pk_r]
  · show pm_V X (d' + 1) 119 0 [some (.ref 82), some (.int c)] [] (pm_S0 ++ g, MHp I p dg sg wt op A S T, J) _
    simp only [e_M_takes_0, e_M_takes_1, e_M_takes_4, e_M_takes_5, e_M_takes_8, e_M_takes_9, e_M_takes_10, e_M_takes_11, e_M_takes_12, e_M_takes_15, e_M_takes_16, e_M_takes_17, e_M_takes_20, e_M_takes_21, sh_o_82, K_M_next h hp, hq, pm_opt_some, pm_opt_none, pm_opt_if, Bool.false_eq_true, Bool.not_false, Bool.not_true, if_false, if_true, true_and, and_true, true_or, or_true, not_true_eq_false, not_false_eq_true, q10, q00, q01, q11, pk_v, pk_i, pk_l, pk_r]
theorem dg_in (c : Int32) : (48 ≤ c ∧ c ≤ 57) = (0 ≤ dgI c) := by
  refine propext ⟨fun h => ?_, fun h => ?_⟩
  · obtain ⟨j, hj, rfl⟩ := in_of (M := 57) (m := 57) rfl ⟨Int32.le_trans (by decide) h.1, h.2⟩
    have h48 : 48 ≤ j := (nI_leI (a := 48) (by decide) (by omega)).mp h.1
    have : ∀ j, j ≤ 57 → 48 ≤ j → 0 ≤ dgI (nI j) := by decide +kernel
    exact this j hj h48
  · rcases dg_or c with z | ⟨k, hk, _, _, z⟩
    · rw [z] at h
      exact absurd h m1_np
    · rw [z]
      have : ∀ k, k < 10 → (48 ≤ nI (48 + k) ∧ nI (48 + k) ≤ 57) := by decide
      exact this k hk
theorem K_M_isDigit (h : RM I n) (hp : p ≤ n) : pm_cl X (d + 2) 121 [.ref 82] (pm_S0 ++ g, MHp I p dg sg wt op A S T, J) P = if 0 ≤ dgI (nxT (I 90) n p) then P (some (.int 1), (pm_S0 ++ g, MHp I p dg sg wt op A S T, J)) else P (some (.int 0), (pm_S0 ++ g, MHp I p dg sg wt op A S T, J)) := by
  refine K_if (k := 1) (fun hq d' => ?_) (fun hq d' => ?_)
  · show pm_V X (d' + 1) 121 0 [some (.ref 82)] [] (pm_S0 ++ g, MHp I p dg sg wt op A S T, J) _
    simp only [e_M_isDigit_0, e_M_isDigit_1, e_M_isDigit_2, e_M_isDigit_5, e_M_isDigit_7, e_M_isDigit_9, e_M_isDigit_12, sh_o_82, K_M_next h hp, K_M_in, dg_in, hq, pm_opt_some, pm_opt_none, pm_opt_if, Bool.false_eq_true, Bool.not_false, Bool.not_true, if_false, if_true, true_and, and_true, true_or, or_true, not_true_eq_false, not_false_eq_true, q10, q00, q01, q11, pk_v, pk_i, pk_l, pk_r]
  · show pm_V X (d' + 1) 121 0 [some (.ref 82)] [] (pm_S0 ++ g, MHp I p dg sg wt op A S T, J) _
    simp only [e_M_isDigit_0, e_M_isDigit_1, e_M_isDigit_2, e_M_isDigit_5, e_M_isDigit_7, e_M_isDigit_9, e_M_isDigit_12, sh_o_82, K_M_next h hp, K_M_in, dg_in, hq, pm_opt_some, pm_opt_none, pm_opt_if, Bool.false_eq_true, Bool.not_false, Bool.not_true, if_false, if_true, true_and, and_true, true_or, or_true, not_true_eq_false, not_false_eq_true, q10, q00, q01, q11, pk_v, pk_i, pk_l, pk_r]
theorem dg_a1 : ∀ k, k < 10 → (10 : Int32) * 0 + nI (48 + k) - 48 = nI k := by decide
theorem dg_a2 : ∀ k, k < 10 → ∀ j, j < 10 → (10 : Int32) * nI k + nI (48 + j) - 48 = nI (10 * k + j) := by decide +kernel
theorem K_M_takesNumber (h : RM I n) (hp : p ≤ n) : pm_cl X (d + 3) 122 [.ref 82] (pm_S0 ++ g, MHp I p dg sg wt op A S T, J) P = if 0 ≤ dgI (nxT (I 90) n p) then P (some (.int 1), (pm_S0 ++ g, MHp I (nuP (I 90) n p) (nI (nuV (I 90) n p)) sg wt op A S T, J)) else P (some (.int 0), (pm_S0 ++ g, MHp I p dg sg wt op A S T, J)) := by
  have t1 : ((2 : Int32) ≤ 0) = False := by decide
  have t2 : ((2 : Int32) ≤ 0 + 1) = False := by decide
  have t3 : ((2 : Int32) ≤ 0 + 1 + 1) = True := by decide
  have t4 : ((2 : Int32) ≤ 1) = False := by decide
  have t5 : ((2 : Int32) ≤ 1 + 1) = True := by decide
  have t6 : ((2 : Int32) ≤ 2) = True := by decide
  refine K_if (k := 2) (fun hq d' => ?_) (fun hq d' => ?_)
  · have hpn : p < n := nx_lt (T := I 90) (fun z => by rw [z, dg_m1] at hq; exact m1_np hq)
    have k1 := fun (d : Nat) (P : pm_O → Prop) (dg : Int32) => K_M_isDigit (X := X) (d := d) (P := P) (g := g) (J := J) (dg := dg) (sg := sg) (wt := wt) (op := op) (A := A) (S := S) (T := T) h hp
    have k2 := fun (d : Nat) (P : pm_O → Prop) (dg : Int32) => K_M_isDigit (X := X) (d := d) (P := P) (g := g) (J := J) (dg := dg) (sg := sg) (wt := wt) (op := op) (A := A) (S := S) (T := T) h (show p + 1 ≤ n by omega)
    have n1 := fun (d : Nat) (P : pm_O → Prop) (dg : Int32) => K_M_next (X := X) (d := d) (P := P) (g := g) (J := J) (dg := dg) (sg := sg) (wt := wt) (op := op) (A := A) (S := S) (T := T) h hp
    have n2 := fun (d : Nat) (P : pm_O → Prop) (dg : Int32) => K_M_next (X := X) (d := d) (P := P) (g := g) (J := J) (dg := dg) (sg := sg) (wt := wt) (op := op) (A := A) (S := S) (T := T) h (show p + 1 ≤ n by omega)
    show pm_V X (d' + 2) 122 0 [some (.ref 82), none] [] (pm_S0 ++ g, MHp I p dg sg wt op A S T, J) _
    rcases dg_or (nxT (I 90) n p) with z | ⟨k, hk, z1, z2, z3⟩
    · rw [z] at hq
      exact absurd hq m1_np
    · have a1 := dg_a1 k hk
      unfold nuP nuV
      rw [z2]
      by_cases q2 : 0 ≤ dgI (nxT (I 90) n (p + 1))
      · rcases dg_or (nxT (I 90) n (p + 1)) with y | ⟨k', hk', y1, y2, y3⟩
        · rw [y] at q2
          exact absurd q2 m1_np
        · have a2 := dg_a2 k hk k' hk'
          rw [if_pos q2, if_pos q2, y2]
          rw [z3] at k1 n1 hq
          rw [y3] at k2 n2 q2
          simp only [e_M_takesNumber_0, e_M_takesNumber_1, e_M_takesNumber_4, e_M_takesNumber_7, e_M_takesNumber_8, e_M_takesNumber_9, e_M_takesNumber_10, e_M_takesNumber_11, e_M_takesNumber_14, e_M_takesNumber_15, e_M_takesNumber_16, e_M_takesNumber_17, e_M_takesNumber_18, e_M_takesNumber_21, e_M_takesNumber_22, e_M_takesNumber_25, e_M_takesNumber_28, e_M_takesNumber_29, e_M_takesNumber_31, e_M_takesNumber_32, e_M_takesNumber_35, e_M_takesNumber_36, e_M_takesNumber_37, e_M_takesNumber_40, e_M_takesNumber_41, e_M_takesNumber_43, e_M_takesNumber_44, e_M_takesNumber_47, e_M_takesNumber_48, e_M_takesNumber_49, e_M_takesNumber_52, e_M_takesNumber_53, e_M_takesNumber_54, e_M_takesNumber_57, e_M_takesNumber_60, e_M_takesNumber_63, e_M_takesNumber_64, sh_o_82, k1, k2, n1, n2, hq, q2, t1, t2, t3, t4, t5, t6, MH_12, MH_13, MH_w12, MH_w13, nI_1, a1, a2, pm_opt_some, pm_opt_none, pm_opt_if, Bool.false_eq_true, Bool.not_false, Bool.not_true, if_false, if_true, true_and, and_true, true_or, or_true, not_true_eq_false, not_false_eq_true, q10, q00, q01, q11, pk_v, pk_i, pk_l, pk_r]
      · rw [if_neg q2, if_neg q2]
        rw [z3] at k1 n1 hq
        simp only [e_M_takesNumber_0, e_M_takesNumber_1, e_M_takesNumber_4, e_M_takesNumber_7, e_M_takesNumber_8, e_M_takesNumber_9, e_M_takesNumber_10, e_M_takesNumber_11, e_M_takesNumber_14, e_M_takesNumber_15, e_M_takesNumber_16, e_M_takesNumber_17, e_M_takesNumber_18, e_M_takesNumber_21, e_M_takesNumber_22, e_M_takesNumber_25, e_M_takesNumber_28, e_M_takesNumber_29, e_M_takesNumber_31, e_M_takesNumber_32, e_M_takesNumber_35, e_M_takesNumber_36, e_M_takesNumber_37, e_M_takesNumber_40, e_M_takesNumber_41, e_M_takesNumber_43, e_M_takesNumber_44, e_M_takesNumber_47, e_M_takesNumber_48, e_M_takesNumber_49, e_M_takesNumber_52, e_M_takesNumber_53, e_M_takesNumber_54, e_M_takesNumber_57, e_M_takesNumber_60, e_M_takesNumber_63, e_M_takesNumber_64, sh_o_82, k1, k2, n1, hq, q2, t1, t2, t3, t4, t5, t6, MH_12, MH_13, MH_w12, MH_w13, nI_1, a1, pm_opt_some, pm_opt_none, pm_opt_if, Bool.false_eq_true, Bool.not_false, Bool.not_true, if_false, if_true, true_and, and_true, true_or, or_true, not_true_eq_false, not_false_eq_true, q10, q00, q01, q11, pk_v, pk_i, pk_l, pk_r]
  · show pm_V X (d' + 2) 122 0 [some (.ref 82), none] [] (pm_S0 ++ g, MHp I p dg sg wt op A S T, J) _
    simp only [e_M_takesNumber_0, e_M_takesNumber_1, e_M_takesNumber_4, e_M_takesNumber_7, e_M_takesNumber_8, e_M_takesNumber_10, e_M_takesNumber_11, e_M_takesNumber_14, e_M_takesNumber_15, e_M_takesNumber_16, e_M_takesNumber_17, e_M_takesNumber_18, e_M_takesNumber_21, e_M_takesNumber_22, e_M_takesNumber_25, e_M_takesNumber_28, e_M_takesNumber_29, e_M_takesNumber_31, e_M_takesNumber_32, e_M_takesNumber_35, e_M_takesNumber_36, e_M_takesNumber_37, e_M_takesNumber_40, e_M_takesNumber_41, e_M_takesNumber_43, e_M_takesNumber_44, e_M_takesNumber_47, e_M_takesNumber_48, e_M_takesNumber_49, e_M_takesNumber_52, e_M_takesNumber_53, e_M_takesNumber_54, e_M_takesNumber_57, e_M_takesNumber_60, e_M_takesNumber_63, e_M_takesNumber_64, sh_o_82, K_M_isDigit h hp, hq, pm_opt_some, pm_opt_none, pm_opt_if, Bool.false_eq_true, Bool.not_false, Bool.not_true, if_false, if_true, true_and, and_true, true_or, or_true, not_true_eq_false, not_false_eq_true, q10, q00, q01, q11, pk_v, pk_i, pk_l, pk_r]
theorem K_M_put (hs : sg < 500) : pm_cl X (d + 1) 123 [.ref 82, .int x] (pm_S0 ++ g, MHp I p dg sg wt op A S T, J) P = P (none, (pm_S0 ++ g, MHp I p dg (sg + 1) wt op A (upd S sg x) T, J)) := by
  have hb := bad_nI (k := sg) (n := 500) hs (by decide)
  have hc := nI_clamp (n := sg) (by omega)
  refine K_of (k := 0) (fun d' => ?_)
  show pm_V X d' 123 0 [some (.ref 82), some (.int x)] [] (pm_S0 ++ g, MHp I p dg sg wt op A S T, J) _
  simp only [e_M_put_0, e_M_put_1, e_M_put_4, e_M_put_5, e_M_put_8, e_M_put_9, e_M_put_10, e_M_put_11, e_M_put_12, e_M_put_15, e_M_put_16, e_M_put_17, e_M_put_20, sh_o_82, sh_r_82_20, sh_w_96, MH_22, hb, hc, MH_w96, nI_1, MH_w22, pm_opt_some, pm_opt_none, pm_opt_if, Bool.false_eq_true, Bool.not_false, Bool.not_true, if_false, if_true, true_and, and_true, true_or, or_true, not_true_eq_false, not_false_eq_true, q10, q00, q01, q11, pk_v, pk_i, pk_l, pk_r]
theorem emS_len : ∀ k, (emS A a k).length = k := by
  intro k
  induction k with
  | zero => rfl
  | succ k ih => rw [emS, List.length_cons, ih]
theorem emS_sh : ∀ k, emS A a (k + 1) = emS A (a + 1) k ++ [-A a] := by
  intro k
  induction k with
  | zero => rfl
  | succ k ih =>
    rw [emS, ih, emS, show a + 1 + k = a + (k + 1) by omega]
    rfl
theorem emS_c {A' : Nat → Int32} : ∀ k, (∀ i, i < k → A (a + i) = A' (a + i)) → emS A a k = emS A' a k := by
  intro k
  induction k with
  | zero => intro _; rfl
  | succ k ih =>
    intro h
    rw [emS, emS, ih (fun i hi => h i (by omega)), h k (by omega)]
/-- the NOTs that wait -/
theorem M_wh_loop (h0 : ∀ b, a = b + 1 → ¬ A b = 33) : ∀ (j sg op : Nat) (S : Nat → Int32), (∀ i, i < j → A (a + i) = 33) → j ≤ op → op ≤ 100 → sg + j ≤ 500 → a + j ≤ 101 → ∀ (d : Nat) (Q : pm_O → Prop), pm_V X (d + 1) 124 0 [some (.ref 82)] [] (pm_S0 ++ g, MHp I p dg sg (a + j) op A S T, J) Q = Q (none, (pm_S0 ++ g, MHp I p dg (sg + j) a (op - j) A (apL S sg (emS A a j)) T, J)) := by
  intro j
  induction j with
  | zero =>
    intro sg op S hA hj ho hs ha d Q
    rw [e_M_whole_0]
    match a, h0, ha with
    | 0, _, _ =>
      have z : (nI (0 + 0) ≤ 0) = True := by decide
      simp only [e_M_whole_1, e_M_whole_4, e_M_whole_8, e_M_whole_11, e_M_whole_12, e_M_whole_15, e_M_whole_16, e_M_whole_17, e_M_whole_18, e_M_whole_20, e_M_whole_23, e_M_whole_24, e_M_whole_26, e_M_whole_29, e_M_whole_30, e_M_whole_31, e_M_whole_34, e_M_whole_35, e_M_whole_36, e_M_whole_39, e_M_whole_40, e_M_whole_41, e_M_whole_44, e_M_whole_45, e_M_whole_46, e_M_whole_49, e_M_whole_52, sh_o_82, MH_23, z, pm_opt_some, pm_opt_none, pm_opt_if, Bool.false_eq_true, Bool.not_false, Bool.not_true, if_false, if_true, true_and, and_true, true_or, or_true, not_true_eq_false, not_false_eq_true, q10, q00, q01, q11, pk_v, pk_i, pk_l, pk_r]
      rfl
    | b + 1, h0, ha =>
      have hb0 := h0 b rfl
      have z : (nI (b + 1 + 0) ≤ 0) = False := eq_false (nI_nle (by omega) (by omega))
      have hm : nI (b + 1 + 0) - 1 = nI b := m1s
      have hb := bad_nI (k := b) (n := 101) (by omega) (by decide)
      have hc := nI_clamp (n := b) (by omega)
      simp only [e_M_whole_1, e_M_whole_4, e_M_whole_7, e_M_whole_8, e_M_whole_11, e_M_whole_12, e_M_whole_15, e_M_whole_16, e_M_whole_17, e_M_whole_18, e_M_whole_20, e_M_whole_24, e_M_whole_26, e_M_whole_29, e_M_whole_30, e_M_whole_31, e_M_whole_34, e_M_whole_35, e_M_whole_36, e_M_whole_39, e_M_whole_40, e_M_whole_41, e_M_whole_44, e_M_whole_45, e_M_whole_46, e_M_whole_49, e_M_whole_52, sh_o_82, sh_r_82_21, sh_i_97, MH_23, MH_97, z, hm, hb, hc, hb0, pm_opt_some, pm_opt_none, pm_opt_if, Bool.false_eq_true, Bool.not_false, Bool.not_true, if_false, if_true, true_and, and_true, true_or, or_true, not_true_eq_false, not_false_eq_true, q10, q00, q01, q11, pk_v, pk_i, pk_l, pk_r]
      rfl
  | succ j ih =>
    intro sg op S hA hj ho hs ha d Q
    have z : (nI (a + (j + 1)) ≤ 0) = False := eq_false (nI_nle (by omega) (by omega))
    have hm : nI (a + (j + 1)) - 1 = nI (a + j) := m1s
    have hb := bad_nI (k := a + j) (n := 101) (by omega) (by decide)
    have hc := nI_clamp (n := a + j) (by omega)
    have h33 := hA j (by omega)
    have kp := fun (d : Nat) (P : pm_O → Prop) (x : Int32) (wt op : Nat) => K_M_put (X := X) (d := d) (P := P) (g := g) (I := I) (J := J) (p := p) (dg := dg) (wt := wt) (op := op) (A := A) (S := S) (T := T) (x := x) (show sg < 500 by omega)
    match op, hj, ho with
    | op + 1, hj, ho =>
      have ho1 : nI (op + 1) - 1 = nI op := m1s
      have neg : -(33 : Int32) = -33 := rfl
      rw [e_M_whole_0]
      simp only [e_M_whole_1, e_M_whole_4, e_M_whole_7, e_M_whole_8, e_M_whole_11, e_M_whole_12, e_M_whole_15, e_M_whole_16, e_M_whole_17, e_M_whole_18, e_M_whole_20, e_M_whole_23, e_M_whole_24, e_M_whole_26, e_M_whole_29, e_M_whole_30, e_M_whole_31, e_M_whole_34, e_M_whole_35, e_M_whole_36, e_M_whole_39, e_M_whole_40, e_M_whole_41, e_M_whole_44, e_M_whole_45, e_M_whole_46, e_M_whole_49, e_M_whole_52, sh_o_82, sh_r_82_21, sh_i_97, MH_23, MH_24, MH_97, z, hm, hb, hc, h33, kp, MH_w23, MH_w24, ho1, pm_opt_some, pm_opt_none, pm_opt_if, Bool.false_eq_true, Bool.not_false, Bool.not_true, if_false, if_true, true_and, and_true, true_or, or_true, not_true_eq_false, not_false_eq_true, q10, q00, q01, q11, pk_v, pk_i, pk_l, pk_r]
      rw [ih (sg + 1) op _ (fun i hi => hA i (by omega)) (by omega) (by omega) (by omega) (by omega), emS, h33, show sg + 1 + j = sg + (j + 1) by omega, show op + 1 - (j + 1) = op - j by omega]
      rfl
theorem K_M_whole {j : Nat} (h0 : ∀ b, a = b + 1 → ¬ A b = 33) (hA : ∀ i, i < j → A (a + i) = 33) (hj : j ≤ op) (ho : op ≤ 100) (hs : sg + j ≤ 500) (ha : a + j ≤ 101) : pm_cl X (d + 2) 124 [.ref 82] (pm_S0 ++ g, MHp I p dg sg (a + j) op A S T, J) P = P (none, (pm_S0 ++ g, MHp I p dg (sg + j) a (op - j) A (apL S sg (emS A a j)) T, J)) := by
  refine K_of (k := 1) (fun d' => ?_)
  have L := M_wh_loop (X := X) (g := g) (I := I) (J := J) (p := p) (dg := dg) (T := T) h0 j sg op S hA hj ho hs ha d'
  show pm_V X (d' + 1) 124 0 [some (.ref 82)] [] (pm_S0 ++ g, MHp I p dg sg (a + j) op A S T, J) _
  rw [L]
/-- the operators that wait -/
def popc (c x : Int32) : Prop := x = 38 ∨ (x = 124 ∧ ¬ c = 38)
theorem M_se_loop (h0 : ∀ b, a = b + 1 → ¬ popc c (A b)) : ∀ (j sg : Nat) (S : Nat → Int32), (∀ i, i < j → popc c (A (a + i))) → sg + j ≤ 500 → a + j ≤ 101 → ∀ (d : Nat) (Q : pm_O → Prop), pm_V X (d + 1) 125 0 [some (.ref 82), some (.int c)] [] (pm_S0 ++ g, MHp I p dg sg (a + j) op A S T, J) Q = Q (none, (pm_S0 ++ g, MHp I p dg (sg + j) a op A (apL S sg (emS A a j)) T, J)) := by
  intro j
  induction j with
  | zero =>
    intro sg S hA hs ha d Q
    rw [e_M_settle_0]
    match a, h0, ha with
    | 0, _, _ =>
      have z : (nI (0 + 0) ≤ 0) = True := by decide
      simp only [e_M_settle_1, e_M_settle_4, e_M_settle_8, e_M_settle_11, e_M_settle_12, e_M_settle_15, e_M_settle_16, e_M_settle_17, e_M_settle_18, e_M_settle_20, e_M_settle_23, e_M_settle_24, e_M_settle_27, e_M_settle_28, e_M_settle_31, e_M_settle_32, e_M_settle_33, e_M_settle_34, e_M_settle_36, e_M_settle_39, e_M_settle_40, e_M_settle_42, e_M_settle_45, e_M_settle_46, e_M_settle_47, e_M_settle_50, e_M_settle_51, e_M_settle_52, e_M_settle_55, e_M_settle_56, e_M_settle_57, e_M_settle_60, e_M_settle_61, e_M_settle_64, e_M_settle_65, e_M_settle_66, e_M_settle_69, e_M_settle_72, sh_o_82, MH_23, z, pm_opt_some, pm_opt_none, pm_opt_if, Bool.false_eq_true, Bool.not_false, Bool.not_true, if_false, if_true, true_and, and_true, true_or, or_true, not_true_eq_false, not_false_eq_true, q10, q00, q01, q11, pk_v, pk_i, pk_l, pk_r]
      rfl
    | b + 1, h0, ha =>
      have hb0 := h0 b rfl
      have z : (nI (b + 1 + 0) ≤ 0) = False := eq_false (nI_nle (by omega) (by omega))
      have hm : nI (b + 1 + 0) - 1 = nI b := m1s
      have hb := bad_nI (k := b) (n := 101) (by omega) (by decide)
      have hc := nI_clamp (n := b) (by omega)
      have n38 : ¬ A b = 38 := fun u => hb0 (Or.inl u)
      by_cases q : A b = 124
      · have c38 : c = 38 := Classical.byContradiction (fun u => hb0 (Or.inr ⟨q, u⟩))
        have y38 : ((124 : Int32) = 38) = False := by decide
        simp only [e_M_settle_1, e_M_settle_4, e_M_settle_7, e_M_settle_8, e_M_settle_11, e_M_settle_12, e_M_settle_15, e_M_settle_16, e_M_settle_17, e_M_settle_18, e_M_settle_20, e_M_settle_23, e_M_settle_24, e_M_settle_27, e_M_settle_28, e_M_settle_31, e_M_settle_32, e_M_settle_33, e_M_settle_34, e_M_settle_36, e_M_settle_39, e_M_settle_40, e_M_settle_42, e_M_settle_46, e_M_settle_47, e_M_settle_50, e_M_settle_51, e_M_settle_52, e_M_settle_55, e_M_settle_56, e_M_settle_57, e_M_settle_60, e_M_settle_61, e_M_settle_64, e_M_settle_65, e_M_settle_66, e_M_settle_69, e_M_settle_72, sh_o_82, sh_r_82_21, sh_i_97, MH_23, MH_97, z, hm, hb, hc, q, y38, c38, pm_opt_some, pm_opt_none, pm_opt_if, Bool.false_eq_true, Bool.not_false, Bool.not_true, if_false, if_true, true_and, and_true, true_or, or_true, not_true_eq_false, not_false_eq_true, q10, q00, q01, q11, pk_v, pk_i, pk_l, pk_r]
        rfl
      · simp only [e_M_settle_1, e_M_settle_4, e_M_settle_7, e_M_settle_8, e_M_settle_11, e_M_settle_12, e_M_settle_15, e_M_settle_16, e_M_settle_17, e_M_settle_18, e_M_settle_20, e_M_settle_23, e_M_settle_24, e_M_settle_27, e_M_settle_28, e_M_settle_31, e_M_settle_32, e_M_settle_33, e_M_settle_34, e_M_settle_36, e_M_settle_40, e_M_settle_42, e_M_settle_46, e_M_settle_47, e_M_settle_50, e_M_settle_51, e_M_settle_52, e_M_settle_55, e_M_settle_56, e_M_settle_57, e_M_settle_60, e_M_settle_61, e_M_settle_64, e_M_settle_65, e_M_settle_66, e_M_settle_69, e_M_settle_72, sh_o_82, sh_r_82_21, sh_i_97, MH_23, MH_97, z, hm, hb, hc, n38, q, pm_opt_some, pm_opt_none, pm_opt_if, Bool.false_eq_true, Bool.not_false, Bool.not_true, if_false, if_true, true_and, and_true, true_or, or_true, not_true_eq_false, not_false_eq_true, q10, q00, q01, q11, pk_v, pk_i, pk_l, pk_r]
        rfl
  | succ j ih =>
    intro sg S hA hs ha d Q
    have z : (nI (a + (j + 1)) ≤ 0) = False := eq_false (nI_nle (by omega) (by omega))
    have hm : nI (a + (j + 1)) - 1 = nI (a + j) := m1s
    have hb := bad_nI (k := a + j) (n := 101) (by omega) (by decide)
    have hc := nI_clamp (n := a + j) (by omega)
    have kp := fun (d : Nat) (P : pm_O → Prop) (x : Int32) (wt : Nat) => K_M_put (X := X) (d := d) (P := P) (g := g) (I := I) (J := J) (p := p) (dg := dg) (wt := wt) (op := op) (A := A) (S := S) (T := T) (x := x) (show sg < 500 by omega)
    have L := fun (d : Nat) (Q : pm_O → Prop) => ih (sg + 1) (upd S sg (-A (a + j))) (fun i hi => hA i (by omega)) (by omega) (by omega) d Q
    rw [e_M_settle_0, emS, show sg + (j + 1) = sg + 1 + j by omega]
    rcases hA j (by omega) with q | ⟨q, nc⟩
    · rw [q] at L
      simp only [e_M_settle_1, e_M_settle_4, e_M_settle_7, e_M_settle_8, e_M_settle_11, e_M_settle_12, e_M_settle_15, e_M_settle_16, e_M_settle_17, e_M_settle_18, e_M_settle_20, e_M_settle_24, e_M_settle_27, e_M_settle_28, e_M_settle_31, e_M_settle_32, e_M_settle_33, e_M_settle_34, e_M_settle_36, e_M_settle_40, e_M_settle_42, e_M_settle_45, e_M_settle_46, e_M_settle_47, e_M_settle_50, e_M_settle_51, e_M_settle_52, e_M_settle_55, e_M_settle_56, e_M_settle_57, e_M_settle_60, e_M_settle_61, e_M_settle_64, e_M_settle_65, e_M_settle_66, e_M_settle_69, e_M_settle_72, sh_o_82, sh_r_82_21, sh_i_97, MH_23, MH_97, z, hm, hb, hc, q, kp, MH_w23, L, pm_opt_some, pm_opt_none, pm_opt_if, Bool.false_eq_true, Bool.not_false, Bool.not_true, if_false, if_true, true_and, and_true, true_or, or_true, not_true_eq_false, not_false_eq_true, q10, q00, q01, q11, pk_v, pk_i, pk_l, pk_r]
      rfl
    · have y38 : ((124 : Int32) = 38) = False := by decide
      rw [q] at L
      simp only [e_M_settle_1, e_M_settle_4, e_M_settle_7, e_M_settle_8, e_M_settle_11, e_M_settle_12, e_M_settle_15, e_M_settle_16, e_M_settle_17, e_M_settle_18, e_M_settle_20, e_M_settle_23, e_M_settle_24, e_M_settle_27, e_M_settle_28, e_M_settle_31, e_M_settle_32, e_M_settle_33, e_M_settle_34, e_M_settle_36, e_M_settle_39, e_M_settle_40, e_M_settle_42, e_M_settle_45, e_M_settle_46, e_M_settle_47, e_M_settle_50, e_M_settle_51, e_M_settle_52, e_M_settle_55, e_M_settle_56, e_M_settle_57, e_M_settle_60, e_M_settle_61, e_M_settle_64, e_M_settle_65, e_M_settle_66, e_M_settle_69, e_M_settle_72, sh_o_82, sh_r_82_21, sh_i_97, MH_23, MH_97, z, hm, hb, hc, q, y38, nc, kp, MH_w23, L, pm_opt_some, pm_opt_none, pm_opt_if, Bool.false_eq_true, Bool.not_false, Bool.not_true, if_false, if_true, true_and, and_true, true_or, or_true, not_true_eq_false, not_false_eq_true, q10, q00, q01, q11, pk_v, pk_i, pk_l, pk_r]
      rfl
theorem K_M_settle {j : Nat} (h0 : ∀ b, a = b + 1 → ¬ popc c (A b)) (hA : ∀ i, i < j → popc c (A (a + i))) (hs : sg + j ≤ 500) (ha : a + j ≤ 101) : pm_cl X (d + 2) 125 [.ref 82, .int c] (pm_S0 ++ g, MHp I p dg sg (a + j) op A S T, J) P = P (none, (pm_S0 ++ g, MHp I p dg (sg + j) a op A (apL S sg (emS A a j)) T, J)) := by
  refine K_of (k := 1) (fun d' => ?_)
  have L := M_se_loop (X := X) (g := g) (I := I) (J := J) (p := p) (dg := dg) (op := op) (T := T) h0 j sg S hA hs ha d'
  show pm_V X (d' + 1) 125 0 [some (.ref 82), some (.int c)] [] (pm_S0 ++ g, MHp I p dg sg (a + j) op A S T, J) _
  rw [L]
end P77
