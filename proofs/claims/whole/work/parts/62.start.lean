/-! the law from its entry, on the pure machine -/
theorem pm_zz (a : Nat) (h : (match pm_S0[a]? with
  | some (t, _, _) => !(t == 0)
  | none => false) = true) (h9 : ¬ a = 119) : pm_I2 a = fun _ => 0 := by
  cases e : pm_S0[a]? with
  | none => rw [e] at h; cases h
  | some c =>
    obtain ⟨t, n, rs⟩ := c
    rw [e] at h
    refine pm_I2z e (fun z => ?_) h9
    subst z
    cases h
theorem pm_f0 {a k : Nat} (h : pm_F2.contains (a, k, 0) = true) : pm_I2 a k = 0 := pm_I2f (by simpa using h)
theorem pm_fm {a k : Nat} (h : pm_F2.contains (a, k, -1) = true) : pm_I2 a k = -1 := pm_I2f (by simpa using h)
theorem Rel_0 : Rel pm_I2 pm_J2 := by
  have z := fun (a : Nat) (h : (match pm_S0[a]? with
    | some (t, _, _) => !(t == 0)
    | none => false) = true) (h9 : ¬ a = 119) => pm_zz a h h9
  refine ⟨?_, ?_, ?_, ?_, ?_, ?_, ?_, ?_⟩
  · unfold REn
    rw [z 83 rfl (by decide), z 84 rfl (by decide), z 85 rfl (by decide), z 86 rfl (by decide), z 87 rfl (by decide), z 88 rfl (by decide), z 89 rfl (by decide), z 105 rfl (by decide), z 106 rfl (by decide), z 107 rfl (by decide), z 3 rfl (by decide), z 4 rfl (by decide), z 5 rfl (by decide), z 6 rfl (by decide), z 7 rfl (by decide), z 8 rfl (by decide), z 9 rfl (by decide), z 10 rfl (by decide), z 11 rfl (by decide), z 12 rfl (by decide)]
    rw [pm_f0 (a := 82) (k := 0) (by decide), pm_f0 (a := 82) (k := 1) (by decide), pm_f0 (a := 82) (k := 34) (by decide), pm_fm (a := 82) (k := 10) (by decide), pm_f0 (a := 1) (k := 4) (by decide), pm_f0 (a := 1) (k := 5) (by decide), pm_f0 (a := 1) (k := 10) (by decide), pm_fm (a := 1) (k := 11) (by decide)]
    simp only [and_self]
  · unfold REk
    rw [z 108 rfl (by decide), z 109 rfl (by decide), z 110 rfl (by decide), z 111 rfl (by decide), z 112 rfl (by decide), z 113 rfl (by decide), z 114 rfl (by decide), z 115 rfl (by decide), z 116 rfl (by decide), z 117 rfl (by decide), z 15 rfl (by decide), z 16 rfl (by decide), z 17 rfl (by decide), z 18 rfl (by decide), z 19 rfl (by decide), z 20 rfl (by decide), z 21 rfl (by decide), z 22 rfl (by decide), z 23 rfl (by decide), z 24 rfl (by decide)]
    rw [pm_f0 (a := 82) (k := 40) (by decide), pm_f0 (a := 82) (k := 41) (by decide), pm_f0 (a := 82) (k := 42) (by decide), pm_fm (a := 82) (k := 39) (by decide), pm_f0 (a := 13) (k := 4) (by decide), pm_f0 (a := 13) (k := 5) (by decide), pm_f0 (a := 13) (k := 10) (by decide), pm_fm (a := 13) (k := 11) (by decide)]
    simp only [and_self]
  · unfold REo
    rw [z 90 rfl (by decide), z 118 rfl (by decide), z 25 rfl (by decide), z 34 rfl (by decide), pm_f0 (a := 82) (k := 38) (by decide), pm_f0 (a := 82) (k := 11) (by decide), pm_f0 (a := 82) (k := 9) (by decide), pm_f0 (a := 82) (k := 53) (by decide), pm_f0 (a := 0) (k := 2) (by decide), pm_f0 (a := 0) (k := 4) (by decide), pm_f0 (a := 0) (k := 7) (by decide), pm_f0 (a := 33) (k := 1) (by decide)]
    simp only [and_self]
  · unfold RBn pB
    rw [z 3 rfl (by decide), z 4 rfl (by decide), z 5 rfl (by decide), z 6 rfl (by decide), z 7 rfl (by decide), z 8 rfl (by decide), z 9 rfl (by decide), z 10 rfl (by decide), z 11 rfl (by decide), z 12 rfl (by decide), pm_f0 (a := 1) (k := 4) (by decide), pm_f0 (a := 1) (k := 10) (by decide), pm_fm (a := 1) (k := 11) (by decide)]
    exact ⟨fun k hk => zT_ok k hk, fun k hk => ⟨0, by decide, rfl⟩, fun k hk => ⟨0, by decide, rfl⟩, fun k hk => ⟨0, by decide, rfl⟩, fun k hk => ⟨0, by decide, rfl⟩, ⟨0, by decide, rfl⟩, ⟨0, by decide, rfl, fun k hk => absurd hk (Nat.not_lt_zero k)⟩, Or.inl rfl⟩
  · unfold RBk pB
    rw [z 15 rfl (by decide), z 16 rfl (by decide), z 17 rfl (by decide), z 18 rfl (by decide), z 19 rfl (by decide), z 20 rfl (by decide), z 21 rfl (by decide), z 22 rfl (by decide), z 23 rfl (by decide), z 24 rfl (by decide), pm_f0 (a := 13) (k := 4) (by decide), pm_f0 (a := 13) (k := 10) (by decide), pm_fm (a := 13) (k := 11) (by decide)]
    exact ⟨fun k hk => zT_ok k hk, fun k hk => ⟨0, by decide, rfl⟩, fun k hk => ⟨0, by decide, rfl⟩, fun k hk => ⟨0, by decide, rfl⟩, fun k hk => ⟨0, by decide, rfl⟩, ⟨0, by decide, rfl⟩, ⟨0, by decide, rfl, fun k hk => absurd hk (Nat.not_lt_zero k)⟩, Or.inl rfl⟩
  · exact ⟨pm_f0 (by decide), 0, by decide, pm_f0 (by decide), fun f hf => absurd hf (Nat.not_lt_zero f)⟩
  · refine ⟨⟨0, by decide, pm_f0 (by decide)⟩, fun k => ?_, Or.inl (pm_f0 (by decide)), ⟨0, by decide, pm_f0 (by decide)⟩⟩
    rw [z 25 rfl (by decide)]
    rfl
  · have jz : ∀ a, a < 123 → pm_J2 a = fun _ => 0 := fun a h => pm_J2z h
    have key : ∀ t, pm_F2.contains (119, t, -1) = true → pm_F2.contains (70 + 2 * t, 0, -1) = true → pm_F2.contains (70 + 2 * t, 1, 0) = true → t < 6 → pm_I2 119 t = pm_I2 (70 + 2 * t) 0 ∧ pm_I2 120 t = pm_I2 (70 + 2 * t) 1 ∧ (∃ l, l ≤ 60 ∧ pm_I2 (70 + 2 * t) 1 = nI l) ∧ (pm_I2 (70 + 2 * t) 0 = -1 ∧ pm_I2 (70 + 2 * t) 1 = 0 ∨ ∃ s, s ≤ 4 ∧ pm_I2 (70 + 2 * t) 0 = nI s) ∧ ∀ k, k < 60 → pm_J2 121 (60 * t + k) = pm_J2 (71 + 2 * t) k := by
      intro t h1 h2 h3 ht
      rw [pm_fm h1, pm_fm h2, pm_f0 h3, z 120 rfl (by decide)]
      refine ⟨rfl, rfl, ⟨0, by decide, rfl⟩, Or.inl ⟨rfl, rfl⟩, fun k hk => ?_⟩
      rw [jz 121 (by decide), jz (71 + 2 * t) (by omega)]
    intro t ht
    match t, ht with
    | 0, _ => exact key 0 (by decide) (by decide) (by decide) (by decide)
    | 1, _ => exact key 1 (by decide) (by decide) (by decide) (by decide)
    | 2, _ => exact key 2 (by decide) (by decide) (by decide) (by decide)
    | 3, _ => exact key 3 (by decide) (by decide) (by decide) (by decide)
    | 4, _ => exact key 4 (by decide) (by decide) (by decide) (by decide)
    | 5, _ => exact key 5 (by decide) (by decide) (by decide) (by decide)
section P62
variable {X : pm_X} {P Q : pm_O → Prop}
theorem up_Z : pm_up pm_Z 0 (fun _ => 0) = pm_Z := by
  funext a k
  unfold pm_up pm_Z
  split
  · rfl
  · rfl
theorem up_ZJ : pm_upJ pm_ZJ 0 (fun _ => 0) = pm_ZJ := by
  funext a k
  unfold pm_upJ pm_ZJ
  split
  · rfl
  · rfl
theorem cl_1 {n : Nat} {r : pm_O} (hr : pm_exec X n 62 0 (0, pm_ent (pm_ml 0) [.ref 0], [], ([(0, 0, List.replicate (pm_nf 0) none)], pm_Z, pm_ZJ)) = some r) (h : P r) : pm_cl X 63 0 [.ref 0] ([(0, 0, List.replicate (pm_nf 0) none)], pm_up pm_Z 0 (fun _ => 0), pm_upJ pm_ZJ 0 (fun _ => 0)) P := by
  rw [up_Z, up_ZJ]
  exact ⟨62, rfl, n, r, hr, h⟩
theorem cl_2 {n : Nat} {r : pm_O} {S : List pm_S} {I : Nat → Nat → Int32} {J : Nat → Nat → Int64} (hr : pm_exec X n 62 106 (0, pm_ent (pm_ml 106) [.ref 82], [], (S, I, J)) = some r) (h : P r) : pm_cl X 63 106 [.ref 82] (S, I, J) P := ⟨62, rfl, n, r, hr, h⟩
theorem law_run (hX : X.1 ≤ 3072) : ∃ (g' : List pm_S) (I' : Nat → Nat → Int32) (J' : Nat → Nat → Int64), g'.length ≤ 512 ∧ (∀ c ∈ g', c.1 = 0 ∧ c.2.1 = 6) ∧ pm_V X 63 192 0 [some (.ref 1000000), none, none, none] [] ([], pm_Z, pm_ZJ) (fun q => q = (some (.int 1), (pm_S0 ++ g', I', J'))) := by
  obtain ⟨g', I', J', h1, h2, h3⟩ := law_loop (X := X) hX 512 0 [] pm_I2 pm_J2 rfl (Nat.le_refl 0) (fun c hc => absurd hc List.not_mem_nil) Rel_0
  refine ⟨g', I', J', h1, h2, ?_⟩
  have h3' := h3 13 (fun q => q = (some (.int 1), (pm_S0 ++ g', I', J')))
  rw [List.append_nil, Nat.mul_zero, nI_0] at h3'
  have h4 : pm_V X 63 192 18 [some (.ref 1000000), some (.ref 0), some (.ref 82), some (.int 0)] [] (pm_S0, pm_I2, pm_J2) (fun q => q = (some (.int 1), (pm_S0 ++ g', I', J'))) := Eq.mpr h3' rfl
  clear h3 h3'
  generalize (fun q : pm_O => q = (some (.int 1), (pm_S0 ++ g', I', J'))) = Q at h4 ⊢
  rw [e_L_law_0]
  refine ⟨by decide, ?_⟩
  rw [e_L_law_3, e_L_law_4]
  refine cl_1 (pm_execN_ok X _ _ _ _ _ pm_r1_eq) ⟨by decide +kernel, ?_⟩
  show pm_V X 63 192 7 [some (.ref 1000000), none, none, none] [.ref 0] (pm_S1, pm_I1, pm_J1) Q
  rw [e_L_law_7, e_L_law_8]
  refine ⟨by decide +kernel, ?_⟩
  rw [S1_len, e_L_law_11, e_L_law_12]
  refine cl_2 (pm_execN_ok X _ _ _ _ _ pm_r2_eq) ⟨by decide +kernel, ?_⟩
  show pm_V X 63 192 15 [some (.ref 1000000), some (.ref 0), none, none] [.ref 82] (pm_S0, pm_I2, pm_J2) Q
  rw [e_L_law_15, e_L_law_16, e_L_law_17]
  exact h4
end P62
