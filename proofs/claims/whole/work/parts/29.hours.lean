/-! hours: class's side -/
section P29
variable {X : pm_X} {d : Nat} {P Q : pm_O → Prop} {g : List pm_S} {S : List pm_S} {I I' : Nat → Nat → Int32} {J : Nat → Nat → Int64} {o a b c j w : Nat} {T U : Nat → T3}
theorem upC_rd (hab : a ≠ b) (hac : a ≠ c) (hbc : b ≠ c) {k : Nat} (hk : k < 16) : rowT (upC I a b c T 16) a b c k = T k := by
  unfold rowT upC
  simp [hk, hab.symm, hac.symm, hbc.symm]
theorem upC_upC : upC (upC I a b c T 16) a b c U 16 = upC I a b c U 16 := by
  funext q k
  unfold upC
  by_cases hk : k < 16
  · by_cases h1 : q = a
    · simp [hk, h1]
    · by_cases h2 : q = b
      · simp [hk, h1, h2]
      · by_cases h3 : q = c
        · simp [hk, h1, h2, h3]
        · simp [hk, h1, h2, h3]
  · simp [hk]
theorem upC_cg (h : ∀ k, k < 16 → T k = U k) : upC I a b c T 16 = upC I a b c U 16 := by
  funext q k
  unfold upC
  by_cases hk : k < 16
  · simp [hk, h k hk]
  · simp [hk]
theorem upC_self : upC I a b c (rowT I a b c) 16 = I := by
  funext q k
  unfold upC rowT
  by_cases hk : k < 16
  · by_cases h1 : q = a
    · subst h1; simp [hk]
    · by_cases h2 : q = b
      · subst h2; simp [hk, h1]
      · by_cases h3 : q = c
        · subst h3; simp [hk, h1, h2]
        · simp [hk, h1, h2, h3]
  · simp [hk]
theorem upC_at {q : Nat} (h1 : q ≠ a) (h2 : q ≠ b) (h3 : q ≠ c) : upC I a b c T 16 q = I q := by
  funext k
  exact upC_ne h1 h2 h3
theorem upC_fr {L : List Nat} (h1 : L.contains a = true) (h2 : L.contains b = true) (h3 : L.contains c = true) : pm_fr L I (upC I a b c T 16) := by
  intro q hq
  refine upC_at (fun e => ?_) (fun e => ?_) (fun e => ?_)
  · subst e; rw [h1] at hq; cases hq
  · subst e; rw [h2] at hq; cases hq
  · subst e; rw [h3] at hq; cases hq
theorem upC_comm {a' b' c' : Nat} (h : ∀ x ∈ [a, b, c], ∀ y ∈ [a', b', c'], x ≠ y) : upC (upC I a b c T 16) a' b' c' U 16 = upC (upC I a' b' c' U 16) a b c T 16 := by
  simp only [List.mem_cons, List.not_mem_nil, or_false, forall_eq_or_imp, forall_eq] at h
  funext q k
  unfold upC
  by_cases hk : k < 16
  · by_cases h1 : q = a
    · subst h1
      simp [hk, h]
    · by_cases h2 : q = b
      · subst h2
        simp [hk, h, h1]
      · by_cases h3 : q = c
        · subst h3
          simp [hk, h, h1, h2]
        · simp [hk, h1, h2, h3]
  · simp [hk]
/-- what a WINTER says doesn't hang on rows beside it -/
theorem wnI_fr (h : I' w = I w) : wnI I' w = wnI I w := by unfold wnI; rw [h]
theorem enI_fr (h : I' (w + 3) = I (w + 3)) : enI I' w = enI I w := by funext c; unfold enI; rw [h]
theorem wsI_fr {which hour warm : Int32} (h0 : I' w = I w) (h1 : I' (w + 1) = I (w + 1)) (h2 : I' (w + 2) = I (w + 2)) (h3 : I' (w + 3) = I (w + 3)) (h4 : I' (w + 4) = I (w + 4)) : wsI I' w which hour warm = wsI I w which hour warm := by
  unfold wsI
  rw [wnI_fr h0, enI_fr h3, h1, h2, h4]
theorem wbI_fr (h0 : I' w = I w) (h1 : I' (w + 1) = I (w + 1)) (h2 : I' (w + 2) = I (w + 2)) : wbI I' w = wbI I w := by
  unfold wbI
  rw [wnI_fr h0, h1, h2]
theorem wok_fr (h0 : I' w = I w) (h3 : I' (w + 3) = I (w + 3)) (h : wok I w) : wok I' w := by
  unfold wok
  rw [wnI_fr h0, enI_fr h3, h0, h3]
  exact h
theorem hwI_fr (h : I' 1 = I 1) : hwI I' = hwI I := by unfold hwI; rw [h]
/-- the cells of WINTERS that the class asks -/
def isW (w : Nat) : Prop := w = 26 ∨ ∃ k, k < 5 ∧ w = 45 + 5 * k
theorem hwI_is : isW (hwI I) := by
  unfold hwI
  split
  · rename_i h
    exact Or.inr ⟨_, (hw_lt h).1, rfl⟩
  · exact Or.inl rfl
theorem isW_at (h : isW w) : winAt (pm_S0 ++ g) w := by
  rcases h with rfl | ⟨k, hk, rfl⟩
  · exact win_no
  · exact win_at hk
theorem isW_out (h : isW w) {i : Nat} (hi : i < 5) : (w + i = 26 ∨ w + i = 27 ∨ w + i = 28 ∨ w + i = 29 ∨ w + i = 30 ∨ (45 ≤ w + i ∧ w + i < 70)) := by
  rcases h with rfl | ⟨k, hk, rfl⟩
  · omega
  · omega
/-- frames of scratch leave it -/
theorem fr_W {L : List Nat} (hL : L.all (fun q => q ≤ 25 || (31 ≤ q && q < 45) || 70 ≤ q) = true) (hf : pm_fr L I I') (h : isW w) {i : Nat} (hi : i < 5) : I' (w + i) = I (w + i) := by
  refine hf _ ?_
  cases hq : L.contains (w + i) with
  | false => rfl
  | true =>
    have := List.all_eq_true.mp hL (w + i) (by simpa using hq)
    have h2 := isW_out h hi
    simp at this
    omega
theorem fr_ws {L : List Nat} (hL : L.all (fun q => q ≤ 25 || (31 ≤ q && q < 45) || 70 ≤ q) = true) (hf : pm_fr L I I') (h : isW w) {which hour warm : Int32} : wsI I' w which hour warm = wsI I w which hour warm :=
  wsI_fr (fr_W hL hf h (i := 0) (by omega)) (fr_W hL hf h (by omega)) (fr_W hL hf h (by omega)) (fr_W hL hf h (by omega)) (fr_W hL hf h (by omega))
theorem fr_wb {L : List Nat} (hL : L.all (fun q => q ≤ 25 || (31 ≤ q && q < 45) || 70 ≤ q) = true) (hf : pm_fr L I I') (h : isW w) : wbI I' w = wbI I w :=
  wbI_fr (fr_W hL hf h (i := 0) (by omega)) (fr_W hL hf h (by omega)) (fr_W hL hf h (by omega))
theorem fr_wok {L : List Nat} (hL : L.all (fun q => q ≤ 25 || (31 ≤ q && q < 45) || 70 ≤ q) = true) (hf : pm_fr L I I') (h : isW w) (hv : wok I w) : wok I' w :=
  wok_fr (fr_W hL hf h (i := 0) (by omega)) (fr_W hL hf h (by omega)) hv
theorem fr_hw (hf : I' 1 = I 1) : hwI I' = hwI I := hwI_fr hf
theorem fr_bI {L : List Nat} (hL : L.all (fun q => q ≤ 25 || (31 ≤ q && q < 45) || 70 ≤ q) = true) (hf : pm_fr L I I') (h1 : I' 1 = I 1) : bI I' = bI I := by
  unfold bI
  rw [hwI_fr h1, fr_wb hL hf hwI_is]
theorem fr_hsT {L : List Nat} (hL : L.all (fun q => q ≤ 25 || (31 ≤ q && q < 45) || 70 ≤ q) = true) (hf : pm_fr L I I') (h : isW w) (h7 : I' 7 = I 7) (h8 : I' 8 = I 8) {heat hour warm : Int32} : hsT I' w heat hour warm T = hsT I w heat hour warm T := by
  unfold hsT stT frI
  rw [fr_ws hL hf h, fr_ws hL hf h, fr_ws hL hf h, h7, h8]
theorem fr_hrT {L : List Nat} (hL : L.all (fun q => q ≤ 25 || (31 ≤ q && q < 45) || 70 ≤ q) = true) (hf : pm_fr L I I') (h : isW w) (h1 : I' 1 = I 1) (h7 : I' 7 = I 7) (h8 : I' 8 = I 8) {heat : Int32} {h0 n : Nat} : hrT I' w heat h0 n T = hrT I w heat h0 n T := by
  unfold hrT
  refine fld_congr _ _ _ (fun i b _ _ => ?_)
  rw [fr_hsT hL hf h h7 h8]
  unfold wmI
  rw [h1]
theorem fr_CH {L : List Nat} (hL : L.all (fun q => q ≤ 25 || (31 ≤ q && q < 45) || 70 ≤ q) = true) (hf : pm_fr L I I') (h1 : I' 1 = I 1) (h : CH I) : CH I' := by
  unfold CH hN
  rw [h1, hwI_fr h1]
  exact ⟨h.1, h.2.1, fr_wok hL hf hwI_is h.2.2⟩
theorem wmI_01 {h : Int32} : wmI I h = 0 ∨ wmI I h = 1 := by
  unfold wmI
  split
  · exact Or.inr rfl
  · exact Or.inl rfl
/-- an hour, the cells told -/
theorem K_B_hour {hour warm heat : Int32} (h : iceAt (pm_S0 ++ g) o a b c) (h7 : 7 ≠ a ∧ 7 ≠ b ∧ 7 ≠ c) (h8 : 8 ≠ a ∧ 8 ≠ b ∧ 8 ≠ c) (hL : [a, b, c].all (fun q => q ≤ 25 || (31 ≤ q && q < 45) || 70 ≤ q) = true) (hw : isW w) (hv : wok I w) (hm : warm = 0 ∨ warm = 1) : pm_cl X (d + 8) 53 [.ref 0, .ref o, .ref w, .int hour, .int warm, .int heat] (pm_S0 ++ g, upC I a b c T 16, J) P = P (none, (pm_S0 ++ g, upC I a b c (hsT I w heat hour warm T) 16, J)) := by
  obtain ⟨ho, r0, r1, r2, sa, sb, sc, hab, hac, hbc⟩ := h
  have hf : pm_fr [a, b, c] I (upC I a b c T 16) := upC_fr (by simp) (by simp) (by simp)
  have hv' := fr_wok hL hf hw hv
  rw [K_B_passHour (X := X) (P := P) (J := J) (I := upC I a b c T 16) ⟨ho, r0, r1, r2, sa, sb, sc, hab, hac, hbc⟩ h7 h8 (isW_at hw).1 (fun d P => K_W_frost (isW_at hw) hv' hm) (fun d P => K_W_falls (isW_at hw) hv' hm), upC_upC]
  congr 4
  refine upC_cg (fun k hk => ?_)
  unfold hourF hsT stT frI
  rw [fr_ws hL hf hw, fr_ws hL hf hw, fr_ws hL hf hw, upC_at h7.1 h7.2.1 h7.2.2, upC_at h8.1 h8.2.1 h8.2.2]
  have := upC_rd (I := I) (T := T) hab hac hbc hk
  unfold rowT at this
  rw [this]
theorem K_B_passHours {n : Nat} {heat : Int32} (h : iceAt (pm_S0 ++ g) o a b c) (h1 : 1 ≠ a ∧ 1 ≠ b ∧ 1 ≠ c) (h7 : 7 ≠ a ∧ 7 ≠ b ∧ 7 ≠ c) (h8 : 8 ≠ a ∧ 8 ≠ b ∧ 8 ≠ c) (hL : [a, b, c].all (fun q => q ≤ 25 || (31 ≤ q && q < 45) || 70 ≤ q) = true) (hC : CH I) (hn : n ≤ 10000) : pm_cl X (d + 10) 54 [.ref 0, .ref o, .int (nI n), .int heat] (pm_S0 ++ g, upC I a b c T 16, J) P = P (none, (pm_S0 ++ g, upC I a b c (hrT I (hwI I) heat (hN I) n T) 16, J)) := by
  have H := h
  obtain ⟨e4, e5, hv⟩ := hC
  obtain ⟨ho, r0, r1, r2, sa, sb, sc, hab, hac, hbc⟩ := h
  refine K_of (k := 9) (fun d' => ?_)
  show pm_V X (d' + 9) 54 0 [some (.ref 0), some (.ref o), some (.int (nI n)), some (.int heat), none] [] (pm_S0 ++ g, upC I a b c T 16, J) _
  have L := fun (Q : pm_O → Prop) => pm_lp (fun k T => pm_V X (d' + 9) 54 9 [some (.ref 0), some (.ref o), some (.int (nI n)), some (.int heat), some (.int (nI (hN I + k)))] [] (pm_S0 ++ g, upC I a b c T 16, J) Q) (fun i T => hsT I (hwI I) heat (nI (hN I + i)) (wmI I (nI (hN I + i))) T) n (by
    intro k T hk
    have hq : (nI (hN I + n) ≤ nI (hN I + k)) = False := by
      rw [nI_le_l (by omega) (by omega)]
      exact eq_false (by omega)
    have f1 : upC I a b c T 16 1 = I 1 := upC_at h1.1 h1.2.1 h1.2.2
    have f2 : hwI (upC I a b c T 16) = hwI I := hwI_fr f1
    show pm_V X (d' + 9) 54 9 [some (.ref 0), some (.ref o), some (.int (nI n)), some (.int heat), some (.int (nI (hN I + k)))] [] (pm_S0 ++ g, upC I a b c T 16, J) Q = _
    rw [e_B_passHours_9]
    have e1 : upC I a b c T 16 1 4 = nI (hN I) := by rw [f1]; exact e4
    have e2 : (if dayI (nI (hN I + k)) < 10 ∧ upC I a b c T 16 1 5 >>> (dayI (nI (hN I + k)) &&& 31) &&& 1 = 1 then (1 : Int32) else 0) = wmI I (nI (hN I + k)) := by
      unfold wmI
      rw [f1]
    simp only [e_B_passHours_0, e_B_passHours_1, e_B_passHours_4, e_B_passHours_7, e_B_passHours_11, e_B_passHours_12, e_B_passHours_15, e_B_passHours_18, e_B_passHours_19, e_B_passHours_20, e_B_passHours_23, e_B_passHours_24, e_B_passHours_25, e_B_passHours_26, e_B_passHours_29, e_B_passHours_31, e_B_passHours_32, e_B_passHours_34, e_B_passHours_37, e_B_passHours_38, e_B_passHours_41, e_B_passHours_44, e_B_passHours_47, sh_o_0, sh_o_1, sh_r_0_0, pm_opt_some, true_and, e1, nI_add, hq, if_false, K_B_holding, f2, pk_r, pk_i, K_B_isWarm, e2, K_B_hour H h7 h8 hL hwI_is hv wmI_01, pk_v, nI_1]
    rfl) n 0 T (by omega)
  have f1 : ∀ T, upC I a b c T 16 1 = I 1 := fun T => upC_at h1.1 h1.2.1 h1.2.2
  have e1 : ∀ T, upC I a b c T 16 1 4 = nI (hN I) := fun T => by rw [f1]; exact e4
  simp only [e_B_passHours_0, e_B_passHours_1, e_B_passHours_4, e_B_passHours_7, e_B_passHours_11, e_B_passHours_12, e_B_passHours_15, e_B_passHours_18, e_B_passHours_19, e_B_passHours_20, e_B_passHours_23, e_B_passHours_24, e_B_passHours_25, e_B_passHours_26, e_B_passHours_29, e_B_passHours_31, e_B_passHours_32, e_B_passHours_34, e_B_passHours_37, e_B_passHours_38, e_B_passHours_41, e_B_passHours_44, e_B_passHours_47, sh_o_0, sh_o_1, sh_r_0_0, pm_opt_some, true_and, e1]
  simp only [Nat.add_zero] at L
  rw [L, e_B_passHours_9]
  simp only [e_B_passHours_0, e_B_passHours_1, e_B_passHours_4, e_B_passHours_7, e_B_passHours_11, e_B_passHours_12, e_B_passHours_15, e_B_passHours_18, e_B_passHours_19, e_B_passHours_20, e_B_passHours_23, e_B_passHours_24, e_B_passHours_25, e_B_passHours_26, e_B_passHours_29, e_B_passHours_31, e_B_passHours_32, e_B_passHours_34, e_B_passHours_37, e_B_passHours_38, e_B_passHours_41, e_B_passHours_44, e_B_passHours_47, sh_o_0, sh_o_1, sh_r_0_0, pm_opt_some, true_and, e1, nI_add, Int32.le_refl, if_true]
  rfl
/-- rows copied -/
theorem K_I_copyFrom {o' a' b' c' : Nat} (h : iceAt (pm_S0 ++ g) o a b c) (h' : iceAt (pm_S0 ++ g) o' a' b' c') (hx : ∀ x ∈ [a, b, c], ∀ y ∈ [a', b', c'], x ≠ y) : pm_cl X (d + 3) 64 [.ref o, .ref o'] (pm_S0 ++ g, I, J) P = P (none, (pm_S0 ++ g, upC I a b c (rowT I a' b' c') 16, J)) := by
  obtain ⟨ho, r0, r1, r2, sa, sb, sc, hab, hac, hbc⟩ := h
  obtain ⟨ho', r0', r1', r2', sa', sb', sc', hab', hac', hbc'⟩ := h'
  simp only [List.mem_cons, List.not_mem_nil, or_false, forall_eq_or_imp, forall_eq] at hx
  obtain ⟨⟨x1, x2, x3⟩, ⟨y1, y2, y3⟩, z1, z2, z3⟩ := hx
  refine K_of (k := 2) (fun d' => ?_)
  have hd : 2 ≤ d' + 2 := by omega
  have c1 : pm_cpo (pm_S0 ++ g) 1 a' 0 a 0 16 = true := by unfold pm_cpo; rw [sa, sa']; rfl
  have c2 : pm_cpo (pm_S0 ++ g) 1 b' 0 b 0 16 = true := by unfold pm_cpo; rw [sb, sb']; rfl
  have c3 : pm_cpo (pm_S0 ++ g) 1 c' 0 c 0 16 = true := by unfold pm_cpo; rw [sc, sc']; rfl
  show pm_V X (d' + 2) 64 0 [some (.ref o), some (.ref o')] [] (pm_S0 ++ g, I, J) _
  simp only [e_I_copyFrom_0, e_I_copyFrom_1, e_I_copyFrom_4, e_I_copyFrom_5, e_I_copyFrom_6, e_I_copyFrom_9, e_I_copyFrom_10, e_I_copyFrom_12, e_I_copyFrom_15, e_I_copyFrom_16, e_I_copyFrom_19, e_I_copyFrom_20, e_I_copyFrom_21, e_I_copyFrom_24, e_I_copyFrom_25, e_I_copyFrom_27, e_I_copyFrom_30, e_I_copyFrom_31, e_I_copyFrom_34, e_I_copyFrom_35, e_I_copyFrom_36, e_I_copyFrom_39, e_I_copyFrom_40, e_I_copyFrom_42, e_I_copyFrom_45, r0, r1, r2, r0', r1', r2', pm_opt_some, hd, c1, c2, c3, if_true, true_and]
  congr 3
  funext q k
  have n0 : (0 : Int32).toNatClampNeg = 0 := by decide
  have n16 : (16 : Int32).toNatClampNeg = 16 := by decide
  unfold pm_up va_cpy upC rowT
  simp only [n0, n16, Nat.zero_le, true_and, Nat.zero_add, Nat.sub_zero]
  by_cases hk : k < 16
  · by_cases h1 : q = a
    · subst h1
      simp [hk, hab, hac, hbc, Ne.symm x1, Ne.symm x2, Ne.symm x3]
    · by_cases h2 : q = b
      · subst h2
        simp [hk, hbc, h1, Ne.symm x2, Ne.symm y2, x2, y2]
      · by_cases h3 : q = c
        · subst h3
          simp [hk, h1, h2]
          by_cases e1 : c' = b
          · exact absurd e1.symm y3
          · by_cases e2 : c' = a
            · exact absurd e2.symm x3
            · simp [e1, e2]
        · simp [hk, h1, h2, h3]
  · by_cases h1 : q = a
    · subst h1
      simp [hk, hab, hac, hbc]
    · by_cases h2 : q = b
      · subst h2
        simp [hk, hbc, h1]
      · by_cases h3 : q = c
        · subst h3
          simp [hk, h1, h2]
        · simp [hk, h1, h2, h3]
end P29
