/-! the parser: a winter that both hold -/
/-- a clause as it must be -/
def gdC (n : Nat) (x : cL) : Prop := x.1 < 4 ∧ x.2.1 < 100 ∧ (¬ x.1 = 3 → dpT x.2.2.2 0 1) ∧ x.2.2.1 + x.2.2.2.length ≤ n
section P83
variable {X : pm_X} {d : Nat} {P Q : pm_O → Prop} {g : List pm_S} {I I' H : Nat → Nat → Int32} {J J' : Nat → Nat → Int64} {a i n p sg s m v cc B k f L w : Nat} {b x y dg : Int32} {t : List Int32} {A S T C : Nat → Int32} {c : Nat}
theorem pC_ok (h : (pC T n p).1 = true) : (pC T n p).2.2.1 < 4 ∧ (pC T n p).2.2.2.1 < 100 ∧ (¬ (pC T n p).2.2.1 = 3 → dpT (pC T n p).2.2.2.2 0 1) := by
  have hs := sr_lt (nxT T n p)
  unfold pC at h ⊢
  generalize srT (nxT T n p) = s at hs h ⊢
  unfold pCs at h ⊢
  generalize tkS T n (wdT s) p = u at h ⊢
  by_cases q0 : u.1 = true
  · rw [if_pos q0] at h ⊢
    unfold pCw at h ⊢
    by_cases q1 : nxT T n u.2 = 32
    · rw [if_pos q1] at h ⊢
      unfold pCn at h ⊢
      by_cases q2 : 0 ≤ dgI (nxT T n (u.2 + 1))
      · have bd := nu_bd q2
        rw [if_pos q2] at h ⊢
        unfold pCd at h ⊢
        by_cases q3 : s = 3
        · rw [if_pos q3]
          exact ⟨hs, bd.1, fun z => absurd q3 z⟩
        · rw [if_neg q3] at h ⊢
          by_cases q4 : nxT T n (nuP T n (u.2 + 1)) = 32
          · rw [if_pos q4] at h ⊢
            exact ⟨hs, bd.1, fun _ => (pP_dp _ 3 0 _ 0 (by decide) (by decide) h).2.2.1 rfl (by decide)⟩
          · rw [if_neg q4] at h
            cases h
      · rw [if_neg q2] at h
        cases h
    · rw [if_neg q1] at h
      cases h
  · rw [if_neg q0] at h
    cases h
theorem pW_ok : ∀ (k p L : Nat), p ≤ n → L ≤ p → (pW T n k p L).1 = true → (pW T n k p L).2.2.length ≤ k ∧ ∀ x ∈ (pW T n k p L).2.2, gdC n x := by
  intro k
  induction k with
  | zero => intro p L _ _ h; cases h
  | succ k ih =>
    intro p L hp hL h
    have ok := pC_ok (T := T) (n := n) (p := p)
    have le := pC_le (T := T) hp
    rw [pW] at h ⊢
    generalize pC T n p = r at ok le h ⊢
    obtain ⟨r1, p1, s, v, t⟩ := r
    obtain ⟨le1, le2, le3⟩ := le
    dsimp only at ok le1 le2 le3 h ⊢
    by_cases q0 : r1 = true
    · have ok := ok q0
      have le3 := le3 q0
      have g1 : gdC n (s, v, L, t) := ⟨ok.1, ok.2.1, ok.2.2, by dsimp only; omega⟩
      rw [if_pos q0] at h ⊢
      by_cases q1 : p1 = n
      · rw [if_pos q1]
        refine ⟨by simp only [List.length_singleton]; omega, fun x hx => ?_⟩
        rw [List.mem_singleton.mp hx]
        exact g1
      · rw [if_neg q1] at h ⊢
        by_cases q2 : k = 0
        · rw [if_pos q2] at h
          cases h
        · rw [if_neg q2] at h ⊢
          by_cases q3 : nxT T n p1 = 59
          · have p3 := nx_c q3 (by decide)
            rw [if_pos q3] at h ⊢
            obtain ⟨c1, c2⟩ := ih (p1 + 1) (L + t.length) (by omega) (by omega) h
            refine ⟨by show (_ :: _ : List cL).length ≤ _; rw [List.length_cons]; omega, fun x hx => ?_⟩
            rcases List.mem_cons.mp hx with z | z
            · rw [z]
              exact g1
            · exact c2 x z
          · rw [if_neg q3] at h
            cases h
    · rw [if_neg q0] at h
      cases h
theorem dpC_of : ∀ (t : List Int32) (o d : Nat), dpT t d 1 → (∀ i, i < t.length → C (o + i) = t.getD i 0) → dpC C o t.length d := by
  intro t
  induction t with
  | nil => intro o d h _; exact h
  | cons x t ih =>
    intro o d h hC
    have h0 : C o = x := hC 0 (Nat.succ_pos _)
    have ht : ∀ i, i < t.length → C (o + 1 + i) = t.getD i 0 := by
      intro i hi
      have := hC (i + 1) (Nat.succ_lt_succ hi)
      rw [show o + 1 + i = o + (i + 1) by omega, this]
      rfl
    show (C o = -1 ∧ 1 ≤ d ∧ dpC C (o + 1) t.length d) ∨ ((C o = -2 ∨ C o = -3) ∧ 2 ≤ d ∧ dpC C (o + 1) t.length (d - 1)) ∨ ((∃ m, m < 900 ∧ C o = nI m) ∧ d ≤ 10 ∧ dpC C (o + 1) t.length (d + 1))
    rw [h0]
    rcases h with ⟨z1, z2, z3⟩ | ⟨z1, z2, z3⟩ | ⟨z1, z2, z3⟩
    · exact Or.inl ⟨z1, z2, ih _ _ z3 ht⟩
    · exact Or.inr (Or.inl ⟨z1, z2, ih _ _ z3 ht⟩)
    · exact Or.inr (Or.inr ⟨z1, z2, ih _ _ z3 ht⟩)
/-- the winters before -/
theorem WR_old (hf : f < 5) (hr : ∀ i, i < 5 → I' (45 + 5 * f + i) = I (45 + 5 * f + i)) (h91 : I' 91 f = I 91 f) (hc : ∀ i, i < 10 * f + 10 → I' 92 i = I 92 i ∧ I' 93 i = I 93 i ∧ I' 94 i = I 94 i ∧ I' 95 i = I 95 i) (h96 : ∀ i, i < 100 * f + 100 → I' 96 i = I 96 i) (h : WR I (45 + 5 * f) f) (hb : WB I f) : WR I' (45 + 5 * f) f ∧ WB I' f := by
  obtain ⟨h1, h2, h3⟩ := h
  have e0 : I' (45 + 5 * f) = I (45 + 5 * f) := hr 0 (by omega)
  have e1 := hr 1 (by omega)
  have e3 := hr 3 (by omega)
  have e4 := hr 4 (by omega)
  have w10 := h1.2.1
  refine ⟨⟨wok_fr e0 e3 h1, ?_, fun c hcl => ?_⟩, fun c hcl hn => ?_⟩
  · rw [h91, wnI_fr e0]
    exact h2
  · rw [wnI_fr e0] at hcl
    obtain ⟨c1, c2, c3, c4⟩ := hc (10 * f + c) (by omega)
    obtain ⟨a1, a2, a3, a4⟩ := h3 c hcl
    rw [c1, c2, e1, hr 2 (by omega)]
    refine ⟨a1, a2, a3, a4.imp id (fun z => ⟨z.1, ?_⟩)⟩
    obtain ⟨b1, b2, b3, b4, b5⟩ := z.2
    obtain ⟨e, he, ee⟩ := hb c hcl z.1
    have hsum : frM I (10 * f + c) + (enI I (45 + 5 * f) c - frE (enI I (45 + 5 * f)) c) = e := (nI_eq (by omega) (by omega)).mp (b2.symm.trans ee)
    have ef : frM I' (10 * f + c) = frM I (10 * f + c) := by unfold frM; rw [c3]
    unfold clR
    rw [c3, c4, ef, enI_fr e3, e4]
    refine ⟨b1, b2, b3, fun i hi => ?_, b5⟩
    rw [h96 _ (by omega)]
    exact b4 i hi
  · rw [wnI_fr e0] at hcl
    rw [e1] at hn
    rw [(hc (10 * f + c) (by omega)).2.2.2]
    exact hb c hcl hn
/-- the winter that is new -/
theorem WR_new {ds : List cL} (hf : f < 5) (hn : n ≤ 100) (hl : ds.length ≤ 10) (hg : ∀ x ∈ ds, gdC n x) (hC : WC I (45 + 5 * f) L (I (45 + 5 * f + 4)) ds) (hM : WM I (I 96) (I 95) f sg ds) (h91 : I 91 f = nI ds.length) : WR I (45 + 5 * f) f ∧ WB I f := by
  obtain ⟨h1, _, h3⟩ := hC
  have ew : wnI I (45 + 5 * f) = ds.length := by
    unfold wnI
    rw [h1, nI_clamp (by omega)]
  have get : ∀ c, c < ds.length → ∃ s v o t, ds[c]? = some (s, v, o, t) ∧ gdC n (s, v, o, t) := by
    intro c hc
    have e := List.getElem?_eq_getElem hc
    have m := hg _ (List.getElem_mem hc)
    generalize ds[c] = y at e m
    obtain ⟨s, v, o, t⟩ := y
    exact ⟨s, v, o, t, e, m⟩
  have en : ∀ c s v o t, ds[c]? = some (s, v, o, t) → gdC n (s, v, o, t) → enI I (45 + 5 * f) c = o + t.length ∧ frE (enI I (45 + 5 * f)) c = o := by
    intro c s v o t hc g1
    obtain ⟨a1, a2, a3, a4, a5, a6, a7, a8⟩ := h3 c s v o t hc
    have hle : o + t.length ≤ n := g1.2.2.2
    refine ⟨by unfold enI; rw [a3, nI_clamp (by omega)], ?_⟩
    unfold frE
    by_cases z : c = 0
    · rw [if_pos z, a6 z]
    · rw [if_neg z]
      unfold enI
      rw [a7 (c - 1) (by omega), nI_clamp (by omega)]
  refine ⟨⟨⟨by rw [ew]; exact h1, by rw [ew]; exact hl, fun c hc => ?_⟩, by rw [ew]; exact h91, fun c hc => ?_⟩, fun c hc hn3 => ?_⟩
  · rw [ew] at hc
    obtain ⟨s, v, o, t, e, g1⟩ := get c hc
    obtain ⟨e1, e2⟩ := en c s v o t e g1
    have hle : o + t.length ≤ n := g1.2.2.2
    rw [e1, e2]
    exact ⟨(h3 c s v o t e).2.2.1, by omega, by omega⟩
  · rw [ew] at hc
    obtain ⟨s, v, o, t, e, g1⟩ := get c hc
    obtain ⟨e1, e2⟩ := en c s v o t e g1
    obtain ⟨a1, a2, a3, a4, a5, a6, a7, a8⟩ := h3 c s v o t e
    obtain ⟨m1, m2, m3, m4, m5⟩ := hM c s v o t e
    have hle : o + t.length ≤ n := g1.2.2.2
    refine ⟨m1.trans a1.symm, m2.trans a2.symm, ⟨v, g1.2.1, a2⟩, ?_⟩
    by_cases q : s = 3
    · left
      rw [a1, q]
      rfl
    · right
      have hs : s < 4 := g1.1
      refine ⟨by rw [a1]; exact fun z => q ((nI_eq (b := 3) (by omega) (by omega)).mp z), ?_⟩
      obtain ⟨m6, m7⟩ := m3 q
      have ef : frM I (10 * f + c) = 100 * f + o := by
        unfold frM
        rw [m6, nI_clamp (by omega)]
      unfold clR
      rw [ef, e1, e2, Nat.add_sub_cancel_left]
      refine ⟨m6, m7, by omega, fun i hi => ?_, dpC_of t o 0 (g1.2.2.1 q) a8⟩
      rw [m5 i hi, a8 i hi]
  · rw [ew] at hc
    obtain ⟨s, v, o, t, e, g1⟩ := get c hc
    obtain ⟨m1, m2, m3, m4, m5⟩ := hM c s v o t e
    obtain ⟨a1, _⟩ := h3 c s v o t e
    have hle : o + t.length ≤ n := g1.2.2.2
    have q : ¬ s = 3 := fun z => hn3 (by rw [a1, z]; rfl)
    exact ⟨100 * f + o + t.length, by omega, (m3 q).2⟩
end P83
