/-! the sums of a WINTER, class's side -/
def wnI (I : Nat → Nat → Int32) (w : Nat) : Nat := (I w 3).toNatClampNeg
def enI (I : Nat → Nat → Int32) (w c : Nat) : Nat := (I (w + 3) c).toNatClampNeg
def wok (I : Nat → Nat → Int32) (w : Nat) : Prop := I w 3 = nI (wnI I w) ∧ wnI I w ≤ 10 ∧ ∀ c, c < wnI I w → I (w + 3) c = nI (enI I w c) ∧ enI I w c ≤ 100 ∧ frE (enI I w) c ≤ enI I w c
def wsI (I : Nat → Nat → Int32) (w : Nat) (which hour warm : Int32) : Int32 := fld (fun c a => if I (w + 1) c = which ∧ holdsC (I (w + 4)) (enI I w) c hour warm = true then a + I (w + 2) c else a) 0 (wnI I w) 0
def wbI (I : Nat → Nat → Int32) (w : Nat) : Int32 := maxI 1 (fld (fun c a => if I (w + 1) c = 3 then I (w + 2) c else a) 0 (wnI I w) 10)
section P27
variable {X : pm_X} {d : Nat} {P Q : pm_O → Prop} {S : List pm_S} {I : Nat → Nat → Int32} {J : Nat → Nat → Int64} {w c : Nat}
theorem K_W_holds {hour warm : Int32} {en : Nat → Nat} (h : winAt S w) (hc : c < 10) (he : ∀ k, k ≤ c → I (w + 3) k = nI (en k) ∧ en k ≤ 100) (hm : frE en c ≤ en c) : pm_cl X (d + 3) 80 [.ref w, .int (nI c), .int hour, .int warm] (S, I, J) P = if holdsC (I (w + 4)) en c hour warm = true then P (some (.int 1), (S, I, J)) else P (some (.int 0), (S, I, J)) := by
  refine K_if (k := 2) (fun hq d' => ?_) (fun hq d' => ?_)
  · show pm_V X (d' + 2) 80 0 [some (.ref w), some (.int (nI c)), some (.int hour), some (.int warm), none, none, none] [] (S, I, J) _
    rw [V_W_holds h hc he hm, if_pos hq]
  · show pm_V X (d' + 2) 80 0 [some (.ref w), some (.int (nI c)), some (.int hour), some (.int warm), none, none, none] [] (S, I, J) _
    rw [V_W_holds h hc he hm, if_neg hq]
theorem K_W_sum {which hour warm : Int32} (h : winAt S w) (hv : wok I w) (hw : warm = 0 ∨ warm = 1) : pm_cl X (d + 5) 79 [.ref w, .int which, .int hour, .int warm] (S, I, J) P = P (some (.int (wsI I w which hour warm)), (S, I, J)) := by
  have H := h
  obtain ⟨ho, r0, r1, r2, r4, s1, s2, s3, s4⟩ := h
  refine K_of (k := 4) (fun d' => ?_)
  show pm_V X (d' + 4) 79 0 [some (.ref w), some (.int which), some (.int hour), some (.int warm), none, none] [] (S, I, J) _
  have L := fun (Q : pm_O → Prop) => pm_lp (fun k a => pm_V X (d' + 4) 79 6 [some (.ref w), some (.int which), some (.int hour), some (.int warm), some (.int a), some (.int (nI k))] [] (S, I, J) Q) (fun c a => if I (w + 1) c = which ∧ holdsC (I (w + 4)) (enI I w) c hour warm = true then a + I (w + 2) c else a) (wnI I w) (by
    intro k a hk
    have h10 := hv.2.1
    have h1 : (nI (wnI I w) ≤ nI k) = False := by
      rw [nI_le_l (by omega) (by omega)]
      exact eq_false (by omega)
    have hb := bad_nI (k := k) (n := 10) (by omega) (by decide)
    have hc := nI_clamp (n := k) (by omega)
    have hh := fun (d : Nat) (P : pm_O → Prop) => K_W_holds (X := X) (d := d) (P := P) (J := J) (hour := hour) (warm := warm) (en := enI I w) (c := k) H (by omega) (fun j hj => ⟨(hv.2.2 j (by omega)).1, (hv.2.2 j (by omega)).2.1⟩) (hv.2.2 k hk).2.2
    show pm_V X (d' + 4) 79 6 [some (.ref w), some (.int which), some (.int hour), some (.int warm), some (.int a), some (.int (nI k))] [] (S, I, J) Q = _
    rw [e_W_sum_6]
    rcases hw with rfl | rfl
    · simp only [e_W_sum_0, e_W_sum_1, e_W_sum_3, e_W_sum_4, e_W_sum_8, e_W_sum_9, e_W_sum_12, e_W_sum_15, e_W_sum_16, e_W_sum_19, e_W_sum_21, e_W_sum_22, e_W_sum_23, e_W_sum_26, e_W_sum_27, e_W_sum_29, e_W_sum_30, e_W_sum_31, e_W_sum_34, e_W_sum_35, e_W_sum_38, e_W_sum_39, e_W_sum_42, e_W_sum_45, e_W_sum_47, e_W_sum_48, e_W_sum_51, e_W_sum_53, e_W_sum_54, e_W_sum_55, e_W_sum_57, e_W_sum_60, e_W_sum_63, e_W_sum_65, ho, r0, r1, ia_of s1, ia_of s2, pm_opt_some, pm_opt_if, hb, hc, Bool.false_eq_true, if_false, true_and, hv.1, h1, nI_1, hh, pk_i, q10, q00, if_true]
      by_cases q1 : I (w + 1) k = which
      · by_cases q2 : holdsC (I (w + 4)) (enI I w) k hour 0 = true
        · simp [q1, q2]
        · simp [q1, q2]
      · simp [q1]
    · simp only [e_W_sum_0, e_W_sum_1, e_W_sum_3, e_W_sum_4, e_W_sum_8, e_W_sum_9, e_W_sum_12, e_W_sum_15, e_W_sum_16, e_W_sum_19, e_W_sum_21, e_W_sum_22, e_W_sum_23, e_W_sum_26, e_W_sum_27, e_W_sum_29, e_W_sum_30, e_W_sum_31, e_W_sum_34, e_W_sum_35, e_W_sum_38, e_W_sum_39, e_W_sum_42, e_W_sum_45, e_W_sum_47, e_W_sum_48, e_W_sum_51, e_W_sum_53, e_W_sum_54, e_W_sum_55, e_W_sum_57, e_W_sum_60, e_W_sum_63, e_W_sum_65, ho, r0, r1, ia_of s1, ia_of s2, pm_opt_some, pm_opt_if, hb, hc, Bool.false_eq_true, if_false, true_and, hv.1, h1, nI_1, hh, pk_i, q10, q00, if_true]
      by_cases q1 : I (w + 1) k = which
      · by_cases q2 : holdsC (I (w + 4)) (enI I w) k hour 1 = true
        · simp [q1, q2]
        · simp [q1, q2]
      · simp [q1]) (wnI I w) 0 0 (by omega)
  simp only [nI_0] at L
  simp only [e_W_sum_0, e_W_sum_1, e_W_sum_3, e_W_sum_4, e_W_sum_8, e_W_sum_9, e_W_sum_12, e_W_sum_15, e_W_sum_16, e_W_sum_19, e_W_sum_21, e_W_sum_22, e_W_sum_23, e_W_sum_26, e_W_sum_27, e_W_sum_29, e_W_sum_30, e_W_sum_31, e_W_sum_34, e_W_sum_35, e_W_sum_38, e_W_sum_39, e_W_sum_42, e_W_sum_45, e_W_sum_47, e_W_sum_48, e_W_sum_51, e_W_sum_53, e_W_sum_54, e_W_sum_55, e_W_sum_57, e_W_sum_60, e_W_sum_63, e_W_sum_65]
  rw [L, e_W_sum_6]
  simp only [e_W_sum_0, e_W_sum_1, e_W_sum_3, e_W_sum_4, e_W_sum_8, e_W_sum_9, e_W_sum_12, e_W_sum_15, e_W_sum_16, e_W_sum_19, e_W_sum_21, e_W_sum_22, e_W_sum_23, e_W_sum_26, e_W_sum_27, e_W_sum_29, e_W_sum_30, e_W_sum_31, e_W_sum_34, e_W_sum_35, e_W_sum_38, e_W_sum_39, e_W_sum_42, e_W_sum_45, e_W_sum_47, e_W_sum_48, e_W_sum_51, e_W_sum_53, e_W_sum_54, e_W_sum_55, e_W_sum_57, e_W_sum_60, e_W_sum_63, e_W_sum_65, ho, true_and, hv.1, Int32.le_refl, if_true]
  rfl
theorem K_W_frost {hour warm : Int32} (h : winAt S w) (hv : wok I w) (hw : warm = 0 ∨ warm = 1) : pm_cl X (d + 6) 73 [.ref w, .int hour, .int warm] (S, I, J) P = P (some (.int (wsI I w 0 hour warm - wsI I w 1 hour warm)), (S, I, J)) := by
  refine K_of (k := 5) (fun d' => ?_)
  show pm_V X (d' + 5) 73 0 [some (.ref w), some (.int hour), some (.int warm)] [] (S, I, J) _
  simp only [e_W_frost_0, e_W_frost_1, e_W_frost_2, e_W_frost_3, e_W_frost_4, e_W_frost_7, e_W_frost_8, e_W_frost_9, e_W_frost_10, e_W_frost_11, e_W_frost_14, e_W_frost_15, h.1, true_and, K_W_sum h hv hw, pk_i]
theorem K_W_falls {hour warm : Int32} (h : winAt S w) (hv : wok I w) (hw : warm = 0 ∨ warm = 1) : pm_cl X (d + 6) 74 [.ref w, .int hour, .int warm] (S, I, J) P = P (some (.int (wsI I w 2 hour warm)), (S, I, J)) := by
  refine K_of (k := 5) (fun d' => ?_)
  show pm_V X (d' + 5) 74 0 [some (.ref w), some (.int hour), some (.int warm)] [] (S, I, J) _
  simp only [e_W_falls_0, e_W_falls_1, e_W_falls_2, e_W_falls_3, e_W_falls_4, e_W_falls_7, h.1, true_and, K_W_sum h hv hw, pk_i]
theorem K_W_bearing (h : winAt S w) (hv : wok I w) : pm_cl X (d + 3) 75 [.ref w] (S, I, J) P = P (some (.int (wbI I w)), (S, I, J)) := by
  obtain ⟨ho, r0, r1, r2, r4, s1, s2, s3, s4⟩ := h
  refine K_of (k := 2) (fun d' => ?_)
  have hd : 2 ≤ d' + 2 := by omega
  show pm_V X (d' + 2) 75 0 [some (.ref w), none, none] [] (S, I, J) _
  have L := fun (Q : pm_O → Prop) => pm_lp (fun k a => pm_V X (d' + 2) 75 5 [some (.ref w), some (.int a), some (.int (nI k))] [] (S, I, J) Q) (fun c a => if I (w + 1) c = 3 then I (w + 2) c else a) (wnI I w) (by
    intro k a hk
    have h10 := hv.2.1
    have h1 : (nI (wnI I w) ≤ nI k) = False := by
      rw [nI_le_l (by omega) (by omega)]
      exact eq_false (by omega)
    have hb := bad_nI (k := k) (n := 10) (by omega) (by decide)
    have hc := nI_clamp (n := k) (by omega)
    show pm_V X (d' + 2) 75 5 [some (.ref w), some (.int a), some (.int (nI k))] [] (S, I, J) Q = _
    rw [e_W_bearing_5]
    simp only [e_W_bearing_0, e_W_bearing_2, e_W_bearing_3, e_W_bearing_4, e_W_bearing_6, e_W_bearing_7, e_W_bearing_10, e_W_bearing_13, e_W_bearing_14, e_W_bearing_17, e_W_bearing_18, e_W_bearing_19, e_W_bearing_20, e_W_bearing_23, e_W_bearing_24, e_W_bearing_27, e_W_bearing_28, e_W_bearing_29, e_W_bearing_30, e_W_bearing_33, e_W_bearing_36, e_W_bearing_37, e_W_bearing_38, e_W_bearing_41, ho, r0, r1, ia_of s1, ia_of s2, pm_opt_some, pm_opt_if, hb, hc, Bool.false_eq_true, if_false, true_and, hv.1, h1, nI_1]
    by_cases q1 : I (w + 1) k = 3
    · simp [q1]
    · simp [q1]) (wnI I w) 0 10 (by omega)
  simp only [nI_0] at L
  simp only [e_W_bearing_0, e_W_bearing_2, e_W_bearing_3, e_W_bearing_4, e_W_bearing_6, e_W_bearing_7, e_W_bearing_10, e_W_bearing_13, e_W_bearing_14, e_W_bearing_17, e_W_bearing_18, e_W_bearing_19, e_W_bearing_20, e_W_bearing_23, e_W_bearing_24, e_W_bearing_27, e_W_bearing_28, e_W_bearing_29, e_W_bearing_30, e_W_bearing_33, e_W_bearing_36, e_W_bearing_37, e_W_bearing_38, e_W_bearing_41]
  rw [L, e_W_bearing_5]
  simp only [e_W_bearing_0, e_W_bearing_2, e_W_bearing_3, e_W_bearing_4, e_W_bearing_6, e_W_bearing_7, e_W_bearing_10, e_W_bearing_13, e_W_bearing_14, e_W_bearing_17, e_W_bearing_18, e_W_bearing_19, e_W_bearing_20, e_W_bearing_23, e_W_bearing_24, e_W_bearing_27, e_W_bearing_28, e_W_bearing_29, e_W_bearing_30, e_W_bearing_33, e_W_bearing_36, e_W_bearing_37, e_W_bearing_38, e_W_bearing_41, ho, true_and, hv.1, Int32.le_refl, if_true, hd, maxI_d]
  rfl
/-- the class's winters lie where they lie -/
theorem win_at {g : List pm_S} {k : Nat} (hk : k < 5) : winAt (pm_S0 ++ g) (45 + 5 * k) := by
  match k, hk with
  | 0, _ => exact ⟨rfl, rfl, rfl, rfl, rfl, rfl, rfl, rfl, rfl⟩
  | 1, _ => exact ⟨rfl, rfl, rfl, rfl, rfl, rfl, rfl, rfl, rfl⟩
  | 2, _ => exact ⟨rfl, rfl, rfl, rfl, rfl, rfl, rfl, rfl, rfl⟩
  | 3, _ => exact ⟨rfl, rfl, rfl, rfl, rfl, rfl, rfl, rfl, rfl⟩
  | 4, _ => exact ⟨rfl, rfl, rfl, rfl, rfl, rfl, rfl, rfl, rfl⟩
theorem win_no {g : List pm_S} : winAt (pm_S0 ++ g) 26 := ⟨rfl, rfl, rfl, rfl, rfl, rfl, rfl, rfl, rfl⟩
/-- the cell of the WINTER that holds -/
def hwI (I : Nat → Nat → Int32) : Nat := if 0 ≤ I 1 11 ∧ I 1 11 ≤ 4 then 45 + 5 * (I 1 11).toNatClampNeg else 26
theorem hw_lt (h : 0 ≤ I 1 11 ∧ I 1 11 ≤ 4) : (I 1 11).toNatClampNeg < 5 ∧ I 1 11 = nI (I 1 11).toNatClampNeg := by
  obtain ⟨j, hj, e⟩ := nI_of2 (x := I 1 11) (M := 4) (n := 4) (by decide) (Int32.not_lt.mpr h.1) h.2
  rw [e, nI_clamp (by omega)]
  exact ⟨by omega, rfl⟩
theorem hw_at {g : List pm_S} : winAt (pm_S0 ++ g) (hwI I) := by
  unfold hwI
  split
  · rename_i h
    exact win_at (hw_lt h).1
  · exact win_no
theorem K_B_holding {g : List pm_S} : pm_cl X (d + 3) 50 [.ref 0] (pm_S0 ++ g, I, J) P = P (some (.ref (hwI I)), (pm_S0 ++ g, I, J)) := by
  unfold hwI
  split
  · rename_i h
    exact K_B_holdW (hw_lt h).1 (hw_lt h).2
  · rename_i h
    exact K_B_holdN h
end P27
