/-! LOADS, who bears, hours: class's side -/
def CS : List Nat := [36, 37, 38, 40, 41, 42, 43, 44]
abbrev T3 : Type := Int32 × Int32 × Int32
def rowT (I : Nat → Nat → Int32) (a b c : Nat) : Nat → T3 := fun k => (I a k, I b k, I c k)
def thT (t : T3) : Int32 := t.1 + t.2.1 / 2
def ldI (f : Nat → Int32) (j : Nat) : Int32 := 2 * f j + sumR (fun o => if nearE (1 <<< (nI j &&& 31)) >>> (nI o &&& 31) &&& 1 = 1 then f o else 0) 0 16
def beI (t l b : Int32) : Bool := decide (l = 0) || (decide (0 < t) && decide (l ≤ t * t / b))
def bI (I : Nat → Nat → Int32) : Int32 := wbI I (hwI I)
def wmI (I : Nat → Nat → Int32) (h : Int32) : Int32 := if dayI h < 10 ∧ I 1 5 >>> (dayI h &&& 31) &&& 1 = 1 then 1 else 0
def stT (I : Nat → Nat → Int32) (hour fr fa : Int32) (T : Nat → T3) : Nat → T3 := fun k => passT (I 7 k) (I 8 k) (coldI (I 7 k) (I 8 k) hour fr) fa (T k)
def frI (I : Nat → Nat → Int32) (w : Nat) (hour warm : Int32) : Int32 := wsI I w 0 hour warm - wsI I w 1 hour warm
def hsT (I : Nat → Nat → Int32) (w : Nat) (heat hour warm : Int32) (T : Nat → T3) : Nat → T3 := stT I hour (frI I w hour warm - heat) (wsI I w 2 hour warm) T
def hrT (I : Nat → Nat → Int32) (w : Nat) (heat : Int32) (h0 : Nat) (n : Nat) (T : Nat → T3) : Nat → T3 := fld (fun i T => hsT I w heat (nI (h0 + i)) (wmI I (nI (h0 + i))) T) 0 n T
def hN (I : Nat → Nat → Int32) : Nat := (I 1 4).toNatClampNeg
/-- what the class's hours ask of its cells -/
def CH (I : Nat → Nat → Int32) : Prop := I 1 4 = nI (hN I) ∧ hN I ≤ 9999 ∧ wok I (hwI I)
section P28
variable {X : pm_X} {d : Nat} {P Q : pm_O → Prop} {g : List pm_S} {S : List pm_S} {I I' : Nat → Nat → Int32} {J : Nat → Nat → Int64} {o a b c j w : Nat}
theorem pm_lp0 (run : Nat → Prop) (N : Nat) (hs : ∀ k, k < N → run k = run (k + 1)) : ∀ (n k : Nat), k + n = N → run k = run N := by
  intro n
  induction n with
  | zero => intro k h; subst h; rfl
  | succ n ih =>
    intro k h
    rw [hs k (by omega), ih (k + 1) (by omega)]
theorem maxI_1 (x : Int32) : ¬ maxI 1 x = 0 := by
  intro e
  have := maxI_toInt 1 x
  rw [e] at this
  have h0 : (0 : Int32).toInt = 0 := rfl
  have h1 : (1 : Int32).toInt = 1 := rfl
  omega
theorem maxI_11 (x : Int32) : maxI 1 (maxI 1 x) = maxI 1 x := by
  have h1 : (1 : Int32).toInt = 1 := rfl
  rw [i_eq, maxI_toInt, maxI_toInt]
  omega
theorem K_B_loadOf (ha : S[a]? = some (1, 16, [])) (hj : j < 16) : pm_cl X (d + 2) 43 [.ref a, .int (nI j)] (S, I, J) P = P (some (.int (ldI (I a) j)), (S, I, J)) := by
  have hb := bad_nI (k := j) (n := 16) hj (by decide)
  have hc := nI_clamp (n := j) (by omega)
  refine K_of (k := 1) (fun d' => ?_)
  show pm_V X (d' + 1) 43 0 [some (.ref a), some (.int (nI j)), none, none, none] [] (S, I, J) _
  simp only [e_B_loadOf_0, e_B_loadOf_1, e_B_loadOf_2, e_B_loadOf_3, e_B_loadOf_6, e_B_loadOf_7, e_B_loadOf_8, e_B_loadOf_9, e_B_loadOf_10, e_B_loadOf_11, e_B_loadOf_12, e_B_loadOf_13, e_B_loadOf_14, e_B_loadOf_18, e_B_loadOf_20, e_B_loadOf_23, e_B_loadOf_24, e_B_loadOf_26, e_B_loadOf_27, e_B_loadOf_28, e_B_loadOf_29, e_B_loadOf_30, e_B_loadOf_33, e_B_loadOf_34, e_B_loadOf_35, e_B_loadOf_37, e_B_loadOf_38, e_B_loadOf_39, e_B_loadOf_40, e_B_loadOf_43, e_B_loadOf_46, e_B_loadOf_47, K_B_nearOf, pk_i, ia_of ha, pm_opt_if, hb, hc, true_and]
  have := L_B_loadOf (X := X) (d := d' + 1) (Q := fun q => q = (some (.int (ldI (I a) j)), (S, I, J))) (I := I) (J := J) (c := nI j) (near := nearE (1 <<< (nI j &&& 31))) ha 16 0 (2 * I a j) (by omega)
  rw [nI_0] at this
  rw [this]
  rfl
theorem K_B_fillLoads (ha : (pm_S0 ++ g)[a]? = some (1, 16, [])) (h44 : ¬ a = 44) : pm_cl X (d + 3) 44 [.ref 0, .ref a] (pm_S0 ++ g, I, J) P = P (none, (pm_S0 ++ g, pm_up I 44 (fun k => if k < 16 then ldI (I a) k else I 44 k), J)) := by
  refine K_of (k := 2) (fun d' => ?_)
  show pm_V X (d' + 2) 44 0 [some (.ref 0), some (.ref a), none] [] (pm_S0 ++ g, I, J) _
  have L := fun (Q : pm_O → Prop) => pm_lp0 (fun k => pm_V X (d' + 2) 44 2 [some (.ref 0), some (.ref a), some (.int (nI k))] [] (pm_S0 ++ g, pm_up I 44 (fun i => if i < k then ldI (I a) i else I 44 i), J) Q) 16 (by
    intro k hk
    have h1 : ((16 : Int32) ≤ nI k) = False := by
      rw [show (16 : Int32) = nI 16 from rfl, nI_le_l (by omega) (by omega)]
      exact eq_false (by omega)
    have hb := bad_nI (k := k) (n := 16) hk (by decide)
    have hc := nI_clamp (n := k) (by omega)
    show pm_V X (d' + 2) 44 2 [some (.ref 0), some (.ref a), some (.int (nI k))] [] (pm_S0 ++ g, pm_up I 44 (fun i => if i < k then ldI (I a) i else I 44 i), J) Q = _
    rw [e_B_fillLoads_2]
    simp only [e_B_fillLoads_0, e_B_fillLoads_1, e_B_fillLoads_3, e_B_fillLoads_5, e_B_fillLoads_8, e_B_fillLoads_9, e_B_fillLoads_12, e_B_fillLoads_13, e_B_fillLoads_14, e_B_fillLoads_15, e_B_fillLoads_18, e_B_fillLoads_19, e_B_fillLoads_22, e_B_fillLoads_25, h1, if_false, sh_r_0_13, pm_opt_some, K_B_loadOf ha hk, pk_i, sh_w_44, hb, hc, Bool.not_false, true_and, nI_1, pu_ne h44]
    have e : pm_w (pm_up I 44 (fun i => if i < k then ldI (I a) i else I 44 i)) 44 k (ldI (I a) k) = pm_up I 44 (fun i => if i < k + 1 then ldI (I a) i else I 44 i) := by
      funext q i
      rw [pm_w_app]
      unfold pm_up
      by_cases q1 : q = 44
      · by_cases q2 : i = k
        · subst q2; simp [q1]
        · have : (i < k + 1) = (i < k) := propext (by omega)
          simp [q1, q2, this]
      · simp [q1]
    rw [e]) 16 0 (by omega)
  simp only [nI_0] at L
  have e0 : pm_up I 44 (fun i => if i < 0 then ldI (I a) i else I 44 i) = I := by
    funext q i
    unfold pm_up
    by_cases q1 : q = 44
    · simp [q1]
    · simp [q1]
  rw [e0] at L
  have h1 : ((16 : Int32) ≤ nI 16) = True := by decide
  simp only [e_B_fillLoads_0, e_B_fillLoads_1, e_B_fillLoads_3, e_B_fillLoads_5, e_B_fillLoads_8, e_B_fillLoads_9, e_B_fillLoads_12, e_B_fillLoads_13, e_B_fillLoads_14, e_B_fillLoads_15, e_B_fillLoads_18, e_B_fillLoads_19, e_B_fillLoads_22, e_B_fillLoads_25]
  rw [L, e_B_fillLoads_2]
  simp only [e_B_fillLoads_0, e_B_fillLoads_1, e_B_fillLoads_3, e_B_fillLoads_5, e_B_fillLoads_8, e_B_fillLoads_9, e_B_fillLoads_12, e_B_fillLoads_13, e_B_fillLoads_14, e_B_fillLoads_15, e_B_fillLoads_18, e_B_fillLoads_19, e_B_fillLoads_22, e_B_fillLoads_25, h1, if_true]
theorem K_B_bears {t l : Int32} (hw : wok I (hwI I)) : pm_cl X (d + 5) 45 [.ref 0, .int t, .int l] (pm_S0 ++ g, I, J) P = if beI t l (bI I) = true then P (some (.int 1), (pm_S0 ++ g, I, J)) else P (some (.int 0), (pm_S0 ++ g, I, J)) := by
  have A : ∀ (d' : Nat) (Q : pm_O → Prop), pm_V X (d' + 4) 45 0 [some (.ref 0), some (.int t), some (.int l)] [] (pm_S0 ++ g, I, J) Q = if beI t l (bI I) = true then Q (some (.int 1), (pm_S0 ++ g, I, J)) else Q (some (.int 0), (pm_S0 ++ g, I, J)) := by
    intro d' Q
    have hd : 2 ≤ d' + 4 := by omega
    have hb : maxI 1 (wbI I (hwI I)) = bI I := maxI_11 _
    have hb0 : ¬ bI I = 0 := maxI_1 _
    simp only [e_B_bears_0, e_B_bears_1, e_B_bears_4, e_B_bears_5, e_B_bears_6, e_B_bears_7, e_B_bears_10, e_B_bears_11, e_B_bears_12, e_B_bears_13, e_B_bears_14, e_B_bears_15, e_B_bears_18, e_B_bears_21, e_B_bears_24, e_B_bears_25, e_B_bears_26, e_B_bears_29, e_B_bears_30, e_B_bears_33, e_B_bears_34, sh_o_0, (hw_at (I := I) (g := g)).1, true_and, K_B_holding, K_W_bearing (hw_at (I := I) (g := g)) hw, pk_r, pk_i, hd, maxI_d, hb, hb0, not_false_eq_true]
    unfold beI
    by_cases q1 : l = 0
    · simp [q1]
    · by_cases q2 : t ≤ 0
      · have q2' : ¬ 0 < t := Int32.not_lt.mpr q2
        simp [q1, q2, q2']
      · have q2' : 0 < t := Int32.not_le.mp q2
        by_cases q3 : t * t / bI I < l
        · have q3' : ¬ l ≤ t * t / bI I := Int32.not_le.mpr q3
          simp [q1, q2, q2', q3, q3']
        · have q3' : l ≤ t * t / bI I := Int32.not_lt.mp q3
          simp [q1, q2, q2', q3, q3']
  refine K_if (k := 4) (fun hq d' => ?_) (fun hq d' => ?_)
  · show pm_V X (d' + 4) 45 0 [some (.ref 0), some (.int t), some (.int l)] [] (pm_S0 ++ g, I, J) _
    rw [A, if_pos hq]
  · show pm_V X (d' + 4) 45 0 [some (.ref 0), some (.int t), some (.int l)] [] (pm_S0 ++ g, I, J) _
    rw [A, if_neg hq]
theorem K_B_everyCell (h : iceAt (pm_S0 ++ g) o a b c) (hw : wok I (hwI I)) : pm_cl X (d + 7) 46 [.ref 0, .ref o] (pm_S0 ++ g, I, J) P = if allF (fun k => beI (thT (rowT I a b c k)) (I 44 k) (bI I)) 0 16 = true then P (some (.int 1), (pm_S0 ++ g, I, J)) else P (some (.int 0), (pm_S0 ++ g, I, J)) := by
  have A : ∀ (d' : Nat) (Q : pm_O → Prop), pm_V X (d' + 6) 46 0 [some (.ref 0), some (.ref o), none] [] (pm_S0 ++ g, I, J) Q = if allF (fun k => beI (thT (rowT I a b c k)) (I 44 k) (bI I)) 0 16 = true then Q (some (.int 1), (pm_S0 ++ g, I, J)) else Q (some (.int 0), (pm_S0 ++ g, I, J)) := by
    intro d' Q
    have L := pm_all (fun k => pm_V X (d' + 6) 46 2 [some (.ref 0), some (.ref o), some (.int (nI k))] [] (pm_S0 ++ g, I, J) Q) (fun k => beI (thT (rowT I a b c k)) (I 44 k) (bI I)) (Q (some (.int 0), (pm_S0 ++ g, I, J))) 16 (by
      intro k hk
      have h1 : ((16 : Int32) ≤ nI k) = False := by
        rw [show (16 : Int32) = nI 16 from rfl, nI_le_l (by omega) (by omega)]
        exact eq_false (by omega)
      have hb := bad_nI (k := k) (n := 16) hk (by decide)
      have hc := nI_clamp (n := k) (by omega)
      show pm_V X (d' + 6) 46 2 [some (.ref 0), some (.ref o), some (.int (nI k))] [] (pm_S0 ++ g, I, J) Q = _
      rw [e_B_everyCellBears_2]
      simp only [e_B_everyCellBears_0, e_B_everyCellBears_1, e_B_everyCellBears_3, e_B_everyCellBears_5, e_B_everyCellBears_8, e_B_everyCellBears_9, e_B_everyCellBears_10, e_B_everyCellBears_11, e_B_everyCellBears_14, e_B_everyCellBears_15, e_B_everyCellBears_18, e_B_everyCellBears_19, e_B_everyCellBears_20, e_B_everyCellBears_23, e_B_everyCellBears_26, e_B_everyCellBears_27, e_B_everyCellBears_28, e_B_everyCellBears_31, e_B_everyCellBears_34, e_B_everyCellBears_35, h1, if_false, sh_o_0, h.1, sh_r_0_13, pm_opt_some, pm_opt_if, K_I_thick h hk, pk_i, sh_i_44, hb, hc, Bool.false_eq_true, true_and, nI_1, K_B_bears hw, q10, q00, not_false_eq_true, not_true_eq_false, if_true, true_or]
      rfl) 16 0 (by omega)
    simp only [nI_0] at L
    have h1 : ((16 : Int32) ≤ nI 16) = True := by decide
    simp only [e_B_everyCellBears_0, e_B_everyCellBears_1, e_B_everyCellBears_3, e_B_everyCellBears_5, e_B_everyCellBears_8, e_B_everyCellBears_9, e_B_everyCellBears_10, e_B_everyCellBears_11, e_B_everyCellBears_14, e_B_everyCellBears_15, e_B_everyCellBears_18, e_B_everyCellBears_19, e_B_everyCellBears_20, e_B_everyCellBears_23, e_B_everyCellBears_26, e_B_everyCellBears_27, e_B_everyCellBears_28, e_B_everyCellBears_31, e_B_everyCellBears_34, e_B_everyCellBears_35]
    rw [L, e_B_everyCellBears_2]
    simp only [e_B_everyCellBears_0, e_B_everyCellBears_1, e_B_everyCellBears_3, e_B_everyCellBears_5, e_B_everyCellBears_8, e_B_everyCellBears_9, e_B_everyCellBears_10, e_B_everyCellBears_11, e_B_everyCellBears_14, e_B_everyCellBears_15, e_B_everyCellBears_18, e_B_everyCellBears_19, e_B_everyCellBears_20, e_B_everyCellBears_23, e_B_everyCellBears_26, e_B_everyCellBears_27, e_B_everyCellBears_28, e_B_everyCellBears_31, e_B_everyCellBears_34, e_B_everyCellBears_35, h1, if_true, q11, or_true, true_and]
  refine K_if (k := 6) (fun hq d' => ?_) (fun hq d' => ?_)
  · show pm_V X (d' + 6) 46 0 [some (.ref 0), some (.ref o), none] [] (pm_S0 ++ g, I, J) _
    rw [A, if_pos hq]
  · show pm_V X (d' + 6) 46 0 [some (.ref 0), some (.ref o), none] [] (pm_S0 ++ g, I, J) _
    rw [A, if_neg hq]
def faI (I : Nat → Nat → Int32) (f : Nat → Int32) : Int32 := fld (fun k s => if 0 < f k ∧ ¬ beI (thT (rowT I 3 4 5 k)) (ldI f k) (bI I) = true then s ||| 1 <<< (nI k &&& 31) else s) 0 16 0
theorem K_B_fallingOf (ha : (pm_S0 ++ g)[a]? = some (1, 16, [])) (hw : wok I (hwI I)) : pm_cl X (d + 7) 47 [.ref 0, .ref a] (pm_S0 ++ g, I, J) P = P (some (.int (faI I (I a))), (pm_S0 ++ g, I, J)) := by
  refine K_of (k := 6) (fun d' => ?_)
  show pm_V X (d' + 6) 47 0 [some (.ref 0), some (.ref a), none, none, none] [] (pm_S0 ++ g, I, J) _
  have L := fun (Q : pm_O → Prop) => pm_lpR (fun k (s : Int32 × Option Value) => pm_V X (d' + 6) 47 4 [some (.ref 0), some (.ref a), some (.int s.1), some (.int (nI k)), s.2] [] (pm_S0 ++ g, I, J) Q) (fun k s => s.1 = fld (fun k s => if 0 < I a k ∧ ¬ beI (thT (rowT I 3 4 5 k)) (ldI (I a) k) (bI I) = true then s ||| 1 <<< (nI k &&& 31) else s) 0 k 0) 16 (by
    intro k s hk hs
    have h1 : ((16 : Int32) ≤ nI k) = False := by
      rw [show (16 : Int32) = nI 16 from rfl, nI_le_l (by omega) (by omega)]
      exact eq_false (by omega)
    have hb := bad_nI (k := k) (n := 16) hk (by decide)
    have hc := nI_clamp (n := k) (by omega)
    refine ⟨(if 0 < I a k ∧ ¬ beI (thT (rowT I 3 4 5 k)) (ldI (I a) k) (bI I) = true then s.1 ||| 1 <<< (nI k &&& 31) else s.1, some (.int (if beI (thT (rowT I 3 4 5 k)) (ldI (I a) k) (bI I) = true then 1 else 0))), ?_, ?_⟩
    · rw [fld_s, ← hs, Nat.zero_add]
    show pm_V X (d' + 6) 47 4 [some (.ref 0), some (.ref a), some (.int s.1), some (.int (nI k)), s.2] [] (pm_S0 ++ g, I, J) Q = _
    rw [e_B_fallingOf_4]
    simp only [e_B_fallingOf_0, e_B_fallingOf_1, e_B_fallingOf_2, e_B_fallingOf_3, e_B_fallingOf_5, e_B_fallingOf_7, e_B_fallingOf_10, e_B_fallingOf_11, e_B_fallingOf_12, e_B_fallingOf_15, e_B_fallingOf_18, e_B_fallingOf_19, e_B_fallingOf_22, e_B_fallingOf_23, e_B_fallingOf_24, e_B_fallingOf_27, e_B_fallingOf_30, e_B_fallingOf_32, e_B_fallingOf_33, e_B_fallingOf_34, e_B_fallingOf_35, e_B_fallingOf_38, e_B_fallingOf_40, e_B_fallingOf_43, e_B_fallingOf_44, e_B_fallingOf_45, e_B_fallingOf_46, e_B_fallingOf_47, e_B_fallingOf_48, e_B_fallingOf_49, e_B_fallingOf_52, e_B_fallingOf_55, e_B_fallingOf_56, h1, if_false, sh_o_0, sh_o_2, sh_r_0_0, sh_r_1_0, pm_opt_some, pm_opt_if, K_I_thick ice_now hk, K_B_loadOf ha hk, pk_i, ia_of ha, hb, hc, Bool.false_eq_true, true_and, nI_1, K_B_bears hw, q10, q00, not_false_eq_true, not_true_eq_false, if_true]
    show (if beI (thT (rowT I 3 4 5 k)) (ldI (I a) k) (bI I) = true then _ else _) = _
    by_cases q1 : beI (thT (rowT I 3 4 5 k)) (ldI (I a) k) (bI I) = true
    · simp [q1]
    · by_cases q2 : I a k ≤ 0
      · have q2' : ¬ 0 < I a k := Int32.not_lt.mpr q2
        simp [q1, q2, q2']
      · have q2' : 0 < I a k := Int32.not_le.mp q2
        simp [q1, q2, q2']) 16 0 (0, none) (by omega) rfl
  simp only [nI_0] at L
  simp only [e_B_fallingOf_0, e_B_fallingOf_1, e_B_fallingOf_2, e_B_fallingOf_3, e_B_fallingOf_5, e_B_fallingOf_7, e_B_fallingOf_10, e_B_fallingOf_11, e_B_fallingOf_12, e_B_fallingOf_15, e_B_fallingOf_18, e_B_fallingOf_19, e_B_fallingOf_22, e_B_fallingOf_23, e_B_fallingOf_24, e_B_fallingOf_27, e_B_fallingOf_30, e_B_fallingOf_32, e_B_fallingOf_33, e_B_fallingOf_34, e_B_fallingOf_35, e_B_fallingOf_38, e_B_fallingOf_40, e_B_fallingOf_43, e_B_fallingOf_44, e_B_fallingOf_45, e_B_fallingOf_46, e_B_fallingOf_47, e_B_fallingOf_48, e_B_fallingOf_49, e_B_fallingOf_52, e_B_fallingOf_55, e_B_fallingOf_56]
  obtain ⟨s', hs', L'⟩ := L (fun q => q = (some (.int (faI I (I a))), (pm_S0 ++ g, I, J)))
  have h1 : ((16 : Int32) ≤ nI 16) = True := by decide
  rw [L', e_B_fallingOf_4]
  simp only [e_B_fallingOf_0, e_B_fallingOf_1, e_B_fallingOf_2, e_B_fallingOf_3, e_B_fallingOf_5, e_B_fallingOf_7, e_B_fallingOf_10, e_B_fallingOf_11, e_B_fallingOf_12, e_B_fallingOf_15, e_B_fallingOf_18, e_B_fallingOf_19, e_B_fallingOf_22, e_B_fallingOf_23, e_B_fallingOf_24, e_B_fallingOf_27, e_B_fallingOf_30, e_B_fallingOf_32, e_B_fallingOf_33, e_B_fallingOf_34, e_B_fallingOf_35, e_B_fallingOf_38, e_B_fallingOf_40, e_B_fallingOf_43, e_B_fallingOf_44, e_B_fallingOf_45, e_B_fallingOf_46, e_B_fallingOf_47, e_B_fallingOf_48, e_B_fallingOf_49, e_B_fallingOf_52, e_B_fallingOf_55, e_B_fallingOf_56, h1, if_true, hs']
  rfl
end P28
