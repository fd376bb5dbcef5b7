/-! THE RELATION of class and reference -/
def REn (I : Nat → Nat → Int32) : Prop := (I 83 = I 3 ∧ I 84 = I 4 ∧ I 85 = I 5 ∧ I 86 = I 6 ∧ I 87 = I 7 ∧ I 88 = I 8 ∧ I 89 = I 9 ∧ I 105 = I 10 ∧ I 106 = I 11 ∧ I 107 = I 12) ∧ I 82 0 = I 1 4 ∧ I 82 1 = I 1 5 ∧ I 82 34 = I 1 10 ∧ I 82 10 = I 1 11
def REk (I : Nat → Nat → Int32) : Prop := (I 108 = I 15 ∧ I 109 = I 16 ∧ I 110 = I 17 ∧ I 111 = I 18 ∧ I 112 = I 19 ∧ I 113 = I 20 ∧ I 114 = I 21 ∧ I 115 = I 22 ∧ I 116 = I 23 ∧ I 117 = I 24) ∧ I 82 40 = I 13 4 ∧ I 82 41 = I 13 5 ∧ I 82 42 = I 13 10 ∧ I 82 39 = I 13 11
def REo (I : Nat → Nat → Int32) : Prop := (I 90 = I 25 ∧ I 118 = I 34) ∧ I 82 38 = I 0 2 ∧ I 82 11 = I 0 4 ∧ I 82 9 = I 0 7 ∧ I 82 53 = I 33 1
/-- a pond's numbers are in their bounds -/
def pB (a b c ki kd vl od hc hh ht o : Nat → Int32) (wc : Int32) : Prop :=
  (∀ k, k < 16 → T3ok (a k, b k, c k)) ∧ (∀ k, k < 16 → ∃ m, m ≤ 9 ∧ ki k = nI m) ∧ (∀ k, k < 16 → ∃ m, m ≤ 6 ∧ kd k = nI m) ∧ (∀ k, k < 16 → ∃ m, m ≤ 9 ∧ vl k = nI m) ∧ (∀ k, k < 4 → ∃ m, m ≤ 10 ∧ od k = nI m) ∧ (∃ h, h ≤ 9999 ∧ o 4 = nI h) ∧
  (∃ n, n ≤ 10 ∧ o 10 = nI n ∧ ∀ k, k < n → (∃ m, m < 16 ∧ hc k = nI m) ∧ (∃ m, m < 240 ∧ hh k = nI m) ∧ ∃ m, m < 1500 ∧ ht k = nI m) ∧ (o 11 = -1 ∨ ∃ f n, o 11 = nI f ∧ wc = nI n ∧ n ≤ 5 ∧ f < n)
def RBn (I : Nat → Nat → Int32) : Prop := pB (I 3) (I 4) (I 5) (I 6) (I 7) (I 8) (I 9) (I 10) (I 11) (I 12) (I 1) (I 0 7)
def RBk (I : Nat → Nat → Int32) : Prop := pB (I 15) (I 16) (I 17) (I 18) (I 19) (I 20) (I 21) (I 22) (I 23) (I 24) (I 13) (I 0 7)
/-- a WINTER's signs lie in its own hundred -/
def WB (I : Nat → Nat → Int32) (f : Nat) : Prop := ∀ c, c < wnI I (45 + 5 * f) → ¬ I (45 + 5 * f + 1) c = 3 → ∃ e, e ≤ 100 * f + 100 ∧ I 95 (10 * f + c) = nI e
def RW (I : Nat → Nat → Int32) : Prop := I 26 3 = 0 ∧ ∃ n, n ≤ 5 ∧ I 0 7 = nI n ∧ ∀ f, f < n → WR I (45 + 5 * f) f ∧ WB I f
def RX (I : Nat → Nat → Int32) : Prop := (∃ n, n ≤ 100 ∧ I 0 4 = nI n) ∧ (∀ k, (I 25 k).toInt8.toInt32 = I 25 k) ∧ (I 0 2 = 0 ∨ I 0 2 = 1) ∧ ∃ n, n ≤ 1000 ∧ I 33 1 = nI n
def RT (I : Nat → Nat → Int32) (J : Nat → Nat → Int64) : Prop := ∀ t, t < 6 → I 119 t = I (70 + 2 * t) 0 ∧ I 120 t = I (70 + 2 * t) 1 ∧ (∃ l, l ≤ 60 ∧ I (70 + 2 * t) 1 = nI l) ∧ (I (70 + 2 * t) 0 = -1 ∧ I (70 + 2 * t) 1 = 0 ∨ ∃ s, s ≤ 4 ∧ I (70 + 2 * t) 0 = nI s) ∧ ∀ k, k < 60 → J 121 (60 * t + k) = J (71 + 2 * t) k
def Rel (I : Nat → Nat → Int32) (J : Nat → Nat → Int64) : Prop := REn I ∧ REk I ∧ REo I ∧ RBn I ∧ RBk I ∧ RW I ∧ RX I ∧ RT I J
/-- scratch -/
def SL : List Nat := [36, 37, 38, 40, 41, 42, 43, 44, 82, 97, 98, 99, 100, 101, 102, 103, 104]
def SF : List Nat := [12, 13, 22, 23, 24, 26, 27]
def sfr (I I' : Nat → Nat → Int32) : Prop := pm_fr SL I I' ∧ ∀ k, SF.contains k = false → I' 82 k = I 82 k
section P35
variable {X : pm_X} {d : Nat} {P Q : pm_O → Prop} {g : List pm_S} {S : List pm_S} {I I' I'' : Nat → Nat → Int32} {J J' : Nat → Nat → Int64} {a b c j w : Nat} {x y z n : Int32} {t : T3} {T : Nat → T3} {p : Nat → Int32} {fi : Int32}
theorem sfr_rf : sfr I I := ⟨fun _ _ => rfl, fun _ _ => rfl⟩
theorem sfr_tr (h : sfr I I') (h' : sfr I' I'') : sfr I I'' := ⟨pm_fr_tr h.1 h'.1, fun k hk => (h'.2 k hk).trans (h.2 k hk)⟩
theorem sfr_of {L : List Nat} (hL : L.all (fun q => SL.contains q && q != 82) = true) (h : pm_fr L I I') : sfr I I' := by
  have h1 : ∀ q, SL.contains q = false → L.contains q = false := by
    intro q hq
    cases hl : L.contains q with
    | false => rfl
    | true =>
      have := List.all_eq_true.mp hL q (by simpa using hl)
      rw [hq] at this
      cases this
  refine ⟨fun q hq => h q (h1 q hq), fun k _ => ?_⟩
  rw [h 82]
  cases hl : L.contains 82 with
  | false => rfl
  | true =>
    have := List.all_eq_true.mp hL 82 (by simpa using hl)
    simp at this
theorem sfr_w82 {k : Nat} {v : Int32} (hk : SF.contains k = true) : sfr I (pm_w I 82 k v) := by
  refine ⟨pm_fr_w (by decide), fun i hi => ?_⟩
  rw [pw_eq, upd_app]
  by_cases e : i = k
  · subst e
    rw [hk] at hi
    cases hi
  · rw [if_neg e]
theorem sfr_at (h : sfr I I') {q : Nat} (hq : SL.contains q = false) : I' q = I q := h.1 q hq
theorem sfr_82 (h : sfr I I') {k : Nat} (hk : SF.contains k = false) : I' 82 k = I 82 k := h.2 k hk
theorem RW_fr (h : ∀ q, 26 ≤ q → q < 70 → (q ≤ 30 ∨ 45 ≤ q) → I' q = I q) (h2 : ∀ q, 91 ≤ q → q ≤ 96 → I' q = I q) (h3 : I' 0 7 = I 0 7) (hR : RW I) : RW I' := by
  obtain ⟨h0, n, hn, e, hf⟩ := hR
  refine ⟨by rw [h 26 (by omega) (by omega) (by omega)]; exact h0, n, hn, h3.trans e, fun f hf' => ?_⟩
  refine ⟨WR_fr (h2 _ (by omega) (by omega)) (h2 _ (by omega) (by omega)) (h2 _ (by omega) (by omega)) (h2 _ (by omega) (by omega)) (h2 _ (by omega) (by omega)) (h2 _ (by omega) (by omega)) (fun i hi => h _ (by omega) (by omega) (by omega)) (hf f hf').1, ?_⟩
  have hb := (hf f hf').2
  unfold WB at hb ⊢
  rw [wnI_fr (h _ (by omega) (by omega) (by omega)), h (45 + 5 * f + 1) (by omega) (by omega) (by omega), h2 95 (by omega) (by omega)]
  exact hb
theorem RT_fr (h : ∀ q, 70 ≤ q → q < 82 → I' q = I q) (h1 : I' 119 = I 119) (h2 : I' 120 = I 120) (h3 : ∀ q, 70 ≤ q → q < 82 → J' q = J q) (h4 : J' 121 = J 121) (hR : RT I J) : RT I' J' := by
  intro t ht
  have := hR t ht
  rw [h (70 + 2 * t) (by omega) (by omega), h1, h2, h3 (71 + 2 * t) (by omega) (by omega), h4]
  exact this
/-- frames with a list that lies apart from some cells -/
theorem fr_rg {L : List Nat} {p : Nat → Bool} (hL : L.all (fun q => !p q) = true) (h : pm_fr L I I') {q : Nat} (hq : p q = true) : I' q = I q := by
  refine h q ?_
  cases hl : L.contains q with
  | false => rfl
  | true =>
    have := List.all_eq_true.mp hL q (by simpa using hl)
    rw [hq] at this
    cases this
theorem RW_frL {L : List Nat} (hL : L.all (fun q => !(decide (26 ≤ q) && decide (q < 70) && (decide (q ≤ 30) || decide (45 ≤ q)) || decide (91 ≤ q) && decide (q ≤ 96))) = true) (h : pm_fr L I I') (h3 : I' 0 7 = I 0 7) (hR : RW I) : RW I' :=
  RW_fr (fun q a b c => fr_rg hL h (by simp only [Bool.or_eq_true, Bool.and_eq_true, decide_eq_true_eq]; omega)) (fun q a b => fr_rg hL h (by simp only [Bool.or_eq_true, Bool.and_eq_true, decide_eq_true_eq]; omega)) h3 hR
theorem RT_frL {L : List Nat} (hL : L.all (fun q => !(decide (70 ≤ q) && decide (q < 82) || decide (q = 119) || decide (q = 120))) = true) (h : pm_fr L I I') (h3 : ∀ q, 70 ≤ q → q < 82 → J' q = J q) (h4 : J' 121 = J 121) (hR : RT I J) : RT I' J' :=
  RT_fr (fun q a b => fr_rg hL h (by simp only [Bool.or_eq_true, Bool.and_eq_true, decide_eq_true_eq]; omega)) (fr_rg hL h (by decide)) (fr_rg hL h (by decide)) h3 h4 hR
theorem Rel_sfr (h : sfr I I') (hJ : ∀ q, ¬ q = 122 → J' q = J q) (hR : Rel I J) : Rel I' J' := by
  obtain ⟨r1, r2, r3, r4, r5, r6, r7, r8⟩ := hR
  refine ⟨?_, ?_, ?_, ?_, ?_, ?_, ?_, ?_⟩
  · unfold REn at r1 ⊢
    simp only [sfr_at h (q := 83) (by decide), sfr_at h (q := 84) (by decide), sfr_at h (q := 85) (by decide), sfr_at h (q := 86) (by decide), sfr_at h (q := 87) (by decide), sfr_at h (q := 88) (by decide), sfr_at h (q := 89) (by decide), sfr_at h (q := 105) (by decide), sfr_at h (q := 106) (by decide), sfr_at h (q := 107) (by decide), sfr_at h (q := 3) (by decide), sfr_at h (q := 4) (by decide), sfr_at h (q := 5) (by decide), sfr_at h (q := 6) (by decide), sfr_at h (q := 7) (by decide), sfr_at h (q := 8) (by decide), sfr_at h (q := 9) (by decide), sfr_at h (q := 10) (by decide), sfr_at h (q := 11) (by decide), sfr_at h (q := 12) (by decide), sfr_at h (q := 1) (by decide), sfr_82 h (k := 0) (by decide), sfr_82 h (k := 1) (by decide), sfr_82 h (k := 34) (by decide), sfr_82 h (k := 10) (by decide)]
    exact r1
  · unfold REk at r2 ⊢
    simp only [sfr_at h (q := 108) (by decide), sfr_at h (q := 109) (by decide), sfr_at h (q := 110) (by decide), sfr_at h (q := 111) (by decide), sfr_at h (q := 112) (by decide), sfr_at h (q := 113) (by decide), sfr_at h (q := 114) (by decide), sfr_at h (q := 115) (by decide), sfr_at h (q := 116) (by decide), sfr_at h (q := 117) (by decide), sfr_at h (q := 15) (by decide), sfr_at h (q := 16) (by decide), sfr_at h (q := 17) (by decide), sfr_at h (q := 18) (by decide), sfr_at h (q := 19) (by decide), sfr_at h (q := 20) (by decide), sfr_at h (q := 21) (by decide), sfr_at h (q := 22) (by decide), sfr_at h (q := 23) (by decide), sfr_at h (q := 24) (by decide), sfr_at h (q := 13) (by decide), sfr_82 h (k := 40) (by decide), sfr_82 h (k := 41) (by decide), sfr_82 h (k := 42) (by decide), sfr_82 h (k := 39) (by decide)]
    exact r2
  · unfold REo at r3 ⊢
    simp only [sfr_at h (q := 90) (by decide), sfr_at h (q := 118) (by decide), sfr_at h (q := 25) (by decide), sfr_at h (q := 34) (by decide), sfr_at h (q := 0) (by decide), sfr_at h (q := 33) (by decide), sfr_82 h (k := 38) (by decide), sfr_82 h (k := 11) (by decide), sfr_82 h (k := 9) (by decide), sfr_82 h (k := 53) (by decide)]
    exact r3
  · unfold RBn at r4 ⊢
    simp only [sfr_at h (q := 3) (by decide), sfr_at h (q := 4) (by decide), sfr_at h (q := 5) (by decide), sfr_at h (q := 6) (by decide), sfr_at h (q := 7) (by decide), sfr_at h (q := 8) (by decide), sfr_at h (q := 9) (by decide), sfr_at h (q := 10) (by decide), sfr_at h (q := 11) (by decide), sfr_at h (q := 12) (by decide), sfr_at h (q := 1) (by decide), sfr_at h (q := 0) (by decide)]
    exact r4
  · unfold RBk at r5 ⊢
    simp only [sfr_at h (q := 15) (by decide), sfr_at h (q := 16) (by decide), sfr_at h (q := 17) (by decide), sfr_at h (q := 18) (by decide), sfr_at h (q := 19) (by decide), sfr_at h (q := 20) (by decide), sfr_at h (q := 21) (by decide), sfr_at h (q := 22) (by decide), sfr_at h (q := 23) (by decide), sfr_at h (q := 24) (by decide), sfr_at h (q := 13) (by decide), sfr_at h (q := 0) (by decide)]
    exact r5
  · exact RW_frL (by decide) h.1 (by rw [sfr_at h (by decide)]) r6
  · unfold RX at r7 ⊢
    simp only [sfr_at h (q := 0) (by decide), sfr_at h (q := 25) (by decide), sfr_at h (q := 33) (by decide)]
    exact r7
  · exact RT_frL (by decide) h.1 (fun q h1 h2 => hJ q (by omega)) (hJ 121 (by decide)) r8
/-- what hours ask -/
theorem Rel_WX (hR : Rel I J) : WX I (hwI I) (I 1 11) := by
  obtain ⟨r1, r2, r3, r4, r5, r6, r7, r8⟩ := hR
  obtain ⟨h0, n, hn, e, hf⟩ := r6
  rcases r4.2.2.2.2.2.2.2 with h | ⟨f, m, h1, h2, h3, h4⟩
  · have hm : ¬ (0 ≤ I 1 11 ∧ I 1 11 ≤ 4) := by
      rw [h]
      decide
    refine Or.inl ⟨h, ?_, h0⟩
    unfold hwI
    rw [if_neg hm]
  · have hmn : m = n := (nI_eq (by omega) (by omega)).mp (h2.symm.trans e)
    have hp : 0 ≤ I 1 11 ∧ I 1 11 ≤ 4 := by
      rw [h1]
      exact ⟨nI_pos' (by omega), by rw [show (4 : Int32) = nI 4 from rfl, nI_leI (by omega) (by decide)]; omega⟩
    have hc : (I 1 11).toNatClampNeg = f := by rw [h1]; exact nI_clamp (by omega)
    have ew : hwI I = 45 + 5 * f := by
      unfold hwI
      rw [if_pos hp, hc]
    rw [ew]
    exact Or.inr ⟨f, by omega, h1, rfl, (hf f (by omega)).1⟩
theorem Rel_CH (hR : Rel I J) : CH I := by
  have hw := WX_ok (Rel_WX hR)
  obtain ⟨r1, r2, r3, r4, r5, r6, r7, r8⟩ := hR
  obtain ⟨h, hh, e⟩ := r4.2.2.2.2.2.1
  have : hN I = h := by
    unfold hN
    rw [e, nI_clamp (by omega)]
  refine ⟨by rw [this]; exact e, by omega, hw⟩
theorem Rel_MC (hR : Rel I J) : MC I := by
  obtain ⟨r1, r2, r3, r4, r5, r6, r7, r8⟩ := hR
  refine ⟨r1.1.2.2.2.2.1, r1.1.2.2.2.2.2.1, fun k hk => ?_⟩
  obtain ⟨m, hm, e⟩ := r4.2.2.2.1 k hk
  rw [e, nI_toInt (by omega)]
  omega
theorem Rel_Tok (hR : Rel I J) : Tok (rowT I 3 4 5) := fun k hk => hR.2.2.2.1.1 k hk
theorem Rel_W1 {f : Nat} {n : Nat} (hR : Rel I J) (hn : I 0 7 = nI n) (hn5 : n ≤ 5) (hf : f < n) : WX I (45 + 5 * f) (nI f) := by
  obtain ⟨r1, r2, r3, r4, r5, r6, r7, r8⟩ := hR
  obtain ⟨h0, m, hm, e, hW⟩ := r6
  have : n = m := (nI_eq (by omega) (by omega)).mp (hn.symm.trans e)
  exact Or.inr ⟨f, by omega, rfl, rfl, (hW f (by omega)).1⟩
/-- what calls may add to the heap: a Reader -/
def pm_grw (g g' : List pm_S) : Prop := g' = g ∨ ∃ rs, rs.all (pm_wfr 123) = true ∧ g' = g ++ [(0, 6, rs)]
/-- Readers that winter() left -/
def gOK (g : List pm_S) : Prop := ∀ c ∈ g, c.1 = 0 ∧ c.2.1 = 6 ∧ c.2.2.all (pm_wfr 123) = true
/-- an answer of the kind that a method gives -/
def pm_vkb (m : Nat) (v : Value) : Bool := match v with
  | .int _ => pm_rk m != 3
  | .long _ => pm_rk m == 3
  | _ => false
/-- A PAIR OF CALLS -/
def Pair (X : pm_X) (mB mM : Nat) (as : List Value) (g : List pm_S) (I : Nat → Nat → Int32) (J : Nat → Nat → Int64) : Prop := ∃ (v : Value) (g' : List pm_S) (I1 : Nat → Nat → Int32) (J1 : Nat → Nat → Int64) (I2 : Nat → Nat → Int32) (J2 : Nat → Nat → Int64), Rel I2 J2 ∧ pm_grw g g' ∧ pm_vkb mB v = true ∧ (∀ (d : Nat) (P : pm_O → Prop), pm_cl X (d + 50) mB (.ref 0 :: as) (pm_S0 ++ g, I, J) P = P (some v, (pm_S0 ++ g', I1, J1))) ∧ ∀ (d : Nat) (P : pm_O → Prop), pm_cl X (d + 50) mM (.ref 82 :: as) (pm_S0 ++ g', I1, J1) P = P (some v, (pm_S0 ++ g', I2, J2))
/-- a pair that asks: both answer the same, scratch alone is written -/
theorem Pair_q {mB mM : Nat} {as : List Value} {v : Value} (hR : Rel I J) (hB : ∃ I1, sfr I I1 ∧ ∀ (d : Nat) (P : pm_O → Prop), pm_cl X (d + 50) mB (.ref 0 :: as) (pm_S0 ++ g, I, J) P = P (some v, (pm_S0 ++ g, I1, J))) (hM : ∀ I1, sfr I I1 → Rel I1 J → ∃ I2, sfr I1 I2 ∧ ∀ (d : Nat) (P : pm_O → Prop), pm_cl X (d + 50) mM (.ref 82 :: as) (pm_S0 ++ g, I1, J) P = P (some v, (pm_S0 ++ g, I2, J))) (hv : pm_vkb mB v = true := by rfl) : Pair X mB mM as g I J := by
  obtain ⟨I1, h1, h2⟩ := hB
  have hR1 : Rel I1 J := Rel_sfr h1 (fun _ _ => rfl) hR
  obtain ⟨I2, h3, h4⟩ := hM I1 h1 hR1
  exact ⟨v, g, I1, J, I2, J, Rel_sfr h3 (fun _ _ => rfl) hR1, Or.inl rfl, hv, h2, h4⟩
end P35
