/-! the parser: what a condition is, as the class reads it -/
abbrev pR : Type := Bool × Nat × List Int32
def pBd (r : pR) (f : pR → pR) : pR := if r.1 = true then f r else r
def pJn (l : List Int32) (q : pR) : pR := (q.1, q.2.1, l ++ q.2.2)
def ltT (c : Int32) : Int32 := ixL [104, 100, 119] c 0
def rlT (c : Int32) : Int32 := ixL [60, 61, 62] c 0
def tsP (T : Nat → Int32) (n p : Nat) : pR :=
  if 0 ≤ ltT (nxT T n p) then (if 0 ≤ rlT (nxT T n (p + 1)) then (if 0 ≤ dgI (nxT T n (p + 2)) then (true, nuP T n (p + 2), [ltT (nxT T n p) * 300 + rlT (nxT T n (p + 1)) * 100 + nI (nuV T n (p + 2))]) else (false, p + 2, [])) else (false, p + 1, [])) else (false, p, [])
/-- by fuel; modes 0 one, 1 more of all, 2 more of any, 3 any, else all -/
def pP (T : Nat → Int32) (n : Nat) : Nat → Nat → Nat → Nat → pR
  | 0, _, _, p => (false, p, [])
  | F + 1, md, k, p => match md with
    | 0 => if k < 4 ∧ nxT T n p = 33 then pBd (pP T n F 0 (k + 1) (p + 1)) (fun r => (true, r.2.1, r.2.2 ++ [-1]))
      else if k < 4 ∧ nxT T n p = 40 then pBd (pP T n F 3 (k + 1) (p + 1)) (fun r => if nxT T n r.2.1 = 41 then (true, r.2.1 + 1, r.2.2) else (false, r.2.1, r.2.2))
      else tsP T n p
    | 1 => if nxT T n p = 38 then pBd (pP T n F 0 k (p + 1)) (fun r => pJn (r.2.2 ++ [-2]) (pP T n F 1 k r.2.1)) else (true, p, [])
    | 2 => if nxT T n p = 124 then pBd (pP T n F 4 k (p + 1)) (fun r => pJn (r.2.2 ++ [-3]) (pP T n F 2 k r.2.1)) else (true, p, [])
    | 3 => pBd (pP T n F 4 k p) (fun r => pJn r.2.2 (pP T n F 2 k r.2.1))
    | _ => pBd (pP T n F 0 k p) (fun r => pJn r.2.2 (pP T n F 1 k r.2.1))
def muP (n md p : Nat) : Nat := 4 * (n - p) + (if md = 3 then 4 else if md = 4 then 3 else 1)
/-- depths of a list of signs -/
def dpT : List Int32 → Nat → Nat → Prop
  | [], d, e => d = e
  | c :: l, d, e => (c = -1 ∧ 1 ≤ d ∧ dpT l d e) ∨ ((c = -2 ∨ c = -3) ∧ 2 ≤ d ∧ dpT l (d - 1) e) ∨ ((∃ m, m < 900 ∧ c = nI m) ∧ d ≤ 10 ∧ dpT l (d + 1) e)
section P72
variable {T : Nat → Int32} {n F k p d e f : Nat} {l m : List Int32} {r : pR}
theorem pP_0 : pP T n (F + 1) 0 k p = if k < 4 ∧ nxT T n p = 33 then pBd (pP T n F 0 (k + 1) (p + 1)) (fun r => (true, r.2.1, r.2.2 ++ [-1])) else if k < 4 ∧ nxT T n p = 40 then pBd (pP T n F 3 (k + 1) (p + 1)) (fun r => if nxT T n r.2.1 = 41 then (true, r.2.1 + 1, r.2.2) else (false, r.2.1, r.2.2)) else tsP T n p := rfl
theorem pP_1 : pP T n (F + 1) 1 k p = if nxT T n p = 38 then pBd (pP T n F 0 k (p + 1)) (fun r => pJn (r.2.2 ++ [-2]) (pP T n F 1 k r.2.1)) else (true, p, []) := rfl
theorem pP_2 : pP T n (F + 1) 2 k p = if nxT T n p = 124 then pBd (pP T n F 4 k (p + 1)) (fun r => pJn (r.2.2 ++ [-3]) (pP T n F 2 k r.2.1)) else (true, p, []) := rfl
theorem pP_3 : pP T n (F + 1) 3 k p = pBd (pP T n F 4 k p) (fun r => pJn r.2.2 (pP T n F 2 k r.2.1)) := rfl
theorem pP_4 : pP T n (F + 1) 4 k p = pBd (pP T n F 0 k p) (fun r => pJn r.2.2 (pP T n F 1 k r.2.1)) := rfl
theorem pBd_t {f : pR → pR} (h : r.1 = true) : pBd r f = f r := if_pos h
theorem pBd_f {f : pR → pR} (h : r.1 = false) : pBd r f = r := by
  unfold pBd
  rw [h]
  rfl
theorem nx_c {c : Int32} (h : nxT T n p = c) (hc : ¬ c = -1) : p < n := nx_lt (fun z => hc (h.symm.trans z))
theorem lt_or (c : Int32) : ltT c = -1 ∨ ∃ k, k < 3 ∧ ltT c = nI k ∧ c = nI ([104, 100, 119].getD k 0) := by
  rcases ixL_or [104, 100, 119] c 0 with h | ⟨k, h1, h2, h3⟩
  · exact Or.inl h
  · exact Or.inr ⟨k, h1, by unfold ltT; rw [h2, Nat.zero_add], h3⟩
theorem rl_or (c : Int32) : rlT c = -1 ∨ ∃ k, k < 3 ∧ rlT c = nI k ∧ c = nI ([60, 61, 62].getD k 0) := by
  rcases ixL_or [60, 61, 62] c 0 with h | ⟨k, h1, h2, h3⟩
  · exact Or.inl h
  · exact Or.inr ⟨k, h1, by unfold rlT; rw [h2, Nat.zero_add], h3⟩
theorem m1_np : ¬ (0 : Int32) ≤ -1 := by decide
theorem lt_m1 : ltT (-1) = -1 := ixL_m isT_15
theorem rl_m1 : rlT (-1) = -1 := ixL_m isT_16
theorem dg_m1 : dgI (-1) = -1 := ixL_m isT_14
theorem nu_bd (h : 0 ≤ dgI (nxT T n p)) : nuV T n p < 100 ∧ p < n ∧ p + 1 ≤ nuP T n p ∧ nuP T n p ≤ n ∧ nuP T n p ≤ p + 2 := by
  have h0 : p < n := nx_lt (T := T) (fun z => by rw [z, dg_m1] at h; exact m1_np h)
  have hd : ∀ c, dgN c < 10 := by
    intro c
    rcases dg_or c with z | ⟨k, hk, _, z2, _⟩
    · unfold dgN
      rw [z]
      decide
    · omega
  have h1 := hd (nxT T n p)
  have h2 := hd (nxT T n (p + 1))
  unfold nuV nuP
  by_cases q : 0 ≤ dgI (nxT T n (p + 1))
  · have h3 : p + 1 < n := nx_lt (T := T) (fun z => by rw [z, dg_m1] at q; exact m1_np q)
    rw [if_pos q, if_pos q]
    omega
  · rw [if_neg q, if_neg q]
    omega
/-- a test takes three bytes or four, and is a sign -/
theorem ts_ok (h : (tsP T n p).1 = true) : p + 3 ≤ (tsP T n p).2.1 ∧ (tsP T n p).2.1 ≤ n ∧ ∃ m, m < 900 ∧ (tsP T n p).2.2 = [nI m] := by
  unfold tsP at h ⊢
  by_cases q1 : 0 ≤ ltT (nxT T n p)
  · by_cases q2 : 0 ≤ rlT (nxT T n (p + 1))
    · by_cases q3 : 0 ≤ dgI (nxT T n (p + 2))
      · rw [if_pos q1, if_pos q2, if_pos q3]
        have := nu_bd q3
        rcases lt_or (nxT T n p) with z | ⟨a, ha, z1, _⟩
        · rw [z] at q1
          exact absurd q1 m1_np
        · rcases rl_or (nxT T n (p + 1)) with y | ⟨b, hb, y1, _⟩
          · rw [y] at q2
            exact absurd q2 m1_np
          · refine ⟨by dsimp only; omega, by dsimp only; omega, a * 300 + b * 100 + nuV T n (p + 2), by omega, ?_⟩
            dsimp only
            rw [z1, y1, show nI a * 300 = nI (a * 300) from pk_mul a 300, show nI b * 100 = nI (b * 100) from pk_mul b 100, nI_add, nI_add]
      · rw [if_pos q1, if_pos q2, if_neg q3] at h
        cases h
    · rw [if_pos q1, if_neg q2] at h
      cases h
  · rw [if_neg q1] at h
    cases h
theorem ts_le (hp : p ≤ n) : p ≤ (tsP T n p).2.1 ∧ (tsP T n p).2.1 ≤ n := by
  unfold tsP
  by_cases q1 : 0 ≤ ltT (nxT T n p)
  · have h1 : p < n := nx_lt (T := T) (fun z => by rw [z, lt_m1] at q1; exact m1_np q1)
    by_cases q2 : 0 ≤ rlT (nxT T n (p + 1))
    · have h2 : p + 1 < n := nx_lt (T := T) (fun z => by rw [z, rl_m1] at q2; exact m1_np q2)
      by_cases q3 : 0 ≤ dgI (nxT T n (p + 2))
      · rw [if_pos q1, if_pos q2, if_pos q3]
        have := nu_bd q3
        dsimp only
        omega
      · rw [if_pos q1, if_pos q2, if_neg q3]
        dsimp only
        omega
    · rw [if_pos q1, if_neg q2]
      dsimp only
      omega
  · rw [if_neg q1]
    dsimp only
    omega
/-- places and lengths -/
def okP (n md p : Nat) (r : pR) : Prop := p ≤ r.2.1 ∧ r.2.1 ≤ n ∧ (r.1 = true → r.2.2.length + p ≤ r.2.1 ∧ ((md = 0 ∨ md = 3 ∨ md = 4) → p + 1 ≤ r.2.1))
theorem pP_le : ∀ (F md k p : Nat), md < 5 → p ≤ n → okP n md p (pP T n F md k p) := by
  intro F
  induction F with
  | zero =>
    intro md k p _ hp
    exact ⟨Nat.le_refl _, hp, fun z => by cases z⟩
  | succ F ih =>
    intro md k p hm hp
    have tail : ∀ (l : List Int32) (md' p1 : Nat), md' < 5 → p ≤ p1 → p1 ≤ n → l.length + p ≤ p1 → ((md = 0 ∨ md = 3 ∨ md = 4) → p + 1 ≤ p1) → okP n md p (pJn l (pP T n F md' k p1)) := by
      intro l md' p1 hm' h1 h2 h3 h4
      obtain ⟨a1, a2, a3⟩ := ih md' k p1 hm' h2
      refine ⟨by show p ≤ (pP T n F md' k p1).2.1; omega, a2, fun z => ?_⟩
      have a4 := a3 z
      show (l ++ (pP T n F md' k p1).2.2).length + p ≤ (pP T n F md' k p1).2.1 ∧ (_ → p + 1 ≤ (pP T n F md' k p1).2.1)
      rw [List.length_append]
      exact ⟨by omega, fun z => by have := h4 z; omega⟩
    match md, hm with
    | 0, _ =>
      rw [pP_0]
      by_cases q1 : k < 4 ∧ nxT T n p = 33
      · have hlt := nx_c q1.2 (by decide)
        obtain ⟨a1, a2, a3⟩ := ih 0 (k + 1) (p + 1) (by decide) (by omega)
        rw [if_pos q1]
        cases e : (pP T n F 0 (k + 1) (p + 1)).1 with
        | true =>
          rw [pBd_t e]
          have a4 := a3 e
          refine ⟨by dsimp only; omega, a2, fun _ => ?_⟩
          dsimp only
          rw [List.length_append, List.length_singleton]
          omega
        | false =>
          rw [pBd_f e]
          exact ⟨by omega, a2, fun z => by rw [e] at z; cases z⟩
      · rw [if_neg q1]
        by_cases q2 : k < 4 ∧ nxT T n p = 40
        · have hlt := nx_c q2.2 (by decide)
          obtain ⟨a1, a2, a3⟩ := ih 3 (k + 1) (p + 1) (by decide) (by omega)
          rw [if_pos q2]
          cases e : (pP T n F 3 (k + 1) (p + 1)).1 with
          | true =>
            rw [pBd_t e]
            have a4 := a3 e
            by_cases q3 : nxT T n (pP T n F 3 (k + 1) (p + 1)).2.1 = 41
            · have hl3 := nx_c q3 (by decide)
              rw [if_pos q3]
              refine ⟨by dsimp only; omega, by dsimp only; omega, fun _ => ?_⟩
              dsimp only
              omega
            · rw [if_neg q3]
              exact ⟨by dsimp only; omega, a2, fun z => by cases z⟩
          | false =>
            rw [pBd_f e]
            exact ⟨by omega, a2, fun z => by rw [e] at z; cases z⟩
        · rw [if_neg q2]
          have h1 := ts_le (T := T) hp
          refine ⟨h1.1, h1.2, fun z => ?_⟩
          obtain ⟨b1, b2, m, b3, b4⟩ := ts_ok z
          rw [b4, List.length_singleton]
          omega
    | 1, _ =>
      rw [pP_1]
      by_cases q1 : nxT T n p = 38
      · have hlt := nx_c q1 (by decide)
        obtain ⟨a1, a2, a3⟩ := ih 0 k (p + 1) (by decide) (by omega)
        rw [if_pos q1]
        cases e : (pP T n F 0 k (p + 1)).1 with
        | true =>
          rw [pBd_t e]
          have a4 := a3 e
          refine tail _ 1 _ (by decide) (by omega) a2 ?_ (fun z => by omega)
          rw [List.length_append, List.length_singleton]
          omega
        | false =>
          rw [pBd_f e]
          exact ⟨by omega, a2, fun z => by rw [e] at z; cases z⟩
      · rw [if_neg q1]
        exact ⟨Nat.le_refl _, hp, fun _ => ⟨by simp, fun z => by omega⟩⟩
    | 2, _ =>
      rw [pP_2]
      by_cases q1 : nxT T n p = 124
      · have hlt := nx_c q1 (by decide)
        obtain ⟨a1, a2, a3⟩ := ih 4 k (p + 1) (by decide) (by omega)
        rw [if_pos q1]
        cases e : (pP T n F 4 k (p + 1)).1 with
        | true =>
          rw [pBd_t e]
          have a4 := a3 e
          refine tail _ 2 _ (by decide) (by omega) a2 ?_ (fun z => by omega)
          rw [List.length_append, List.length_singleton]
          omega
        | false =>
          rw [pBd_f e]
          exact ⟨by omega, a2, fun z => by rw [e] at z; cases z⟩
      · rw [if_neg q1]
        exact ⟨Nat.le_refl _, hp, fun _ => ⟨by simp, fun z => by omega⟩⟩
    | 3, _ =>
      rw [pP_3]
      obtain ⟨a1, a2, a3⟩ := ih 4 k p (by decide) hp
      cases e : (pP T n F 4 k p).1 with
      | true =>
        rw [pBd_t e]
        have a4 := a3 e
        exact tail _ 2 _ (by decide) (by omega) a2 (by omega) (fun _ => a4.2 (by omega))
      | false =>
        rw [pBd_f e]
        exact ⟨a1, a2, fun z => by rw [e] at z; cases z⟩
    | 4, _ =>
      rw [pP_4]
      obtain ⟨a1, a2, a3⟩ := ih 0 k p (by decide) hp
      cases e : (pP T n F 0 k p).1 with
      | true =>
        rw [pBd_t e]
        have a4 := a3 e
        exact tail _ 1 _ (by decide) (by omega) a2 (by omega) (fun _ => a4.2 (by omega))
      | false =>
        rw [pBd_f e]
        exact ⟨a1, a2, fun z => by rw [e] at z; cases z⟩
/-- where more of it ends -/
theorem pP_ex : ∀ (F md k p : Nat), md < 5 → (pP T n F md k p).1 = true → (md = 1 ∨ md = 4 → ¬ nxT T n (pP T n F md k p).2.1 = 38) ∧ (md = 2 → ¬ nxT T n p = 38 → ¬ nxT T n (pP T n F md k p).2.1 = 38) ∧ (md = 3 → ¬ nxT T n (pP T n F md k p).2.1 = 38) ∧ (md = 2 ∨ md = 3 → ¬ nxT T n (pP T n F md k p).2.1 = 124) := by
  intro F
  induction F with
  | zero => intro md k p _ h; cases h
  | succ F ih =>
    intro md k p hm h
    match md, hm with
    | 0, _ => exact ⟨fun z => by omega, fun z => by omega, fun z => by omega, fun z => by omega⟩
    | 1, _ =>
      refine ⟨fun _ => ?_, fun z => by omega, fun z => by omega, fun z => by omega⟩
      rw [pP_1] at h ⊢
      by_cases q1 : nxT T n p = 38
      · rw [if_pos q1] at h ⊢
        cases e : (pP T n F 0 k (p + 1)).1 with
        | true =>
          rw [pBd_t e] at h ⊢
          exact (ih 1 k _ (by decide) h).1 (by omega)
        | false =>
          rw [pBd_f e, e] at h
          cases h
      · rw [if_neg q1]
        exact q1
    | 2, _ =>
      refine ⟨fun z => by omega, fun _ => ?_, fun z => by omega, fun _ => ?_⟩
      · intro hp
        rw [pP_2] at h ⊢
        by_cases q1 : nxT T n p = 124
        · rw [if_pos q1] at h ⊢
          cases e : (pP T n F 4 k (p + 1)).1 with
          | true =>
            rw [pBd_t e] at h ⊢
            exact (ih 2 k _ (by decide) h).2.1 rfl ((ih 4 k _ (by decide) e).1 (by omega))
          | false =>
            rw [pBd_f e, e] at h
            cases h
        · rw [if_neg q1]
          exact hp
      · rw [pP_2] at h ⊢
        by_cases q1 : nxT T n p = 124
        · rw [if_pos q1] at h ⊢
          cases e : (pP T n F 4 k (p + 1)).1 with
          | true =>
            rw [pBd_t e] at h ⊢
            exact (ih 2 k _ (by decide) h).2.2.2 (by omega)
          | false =>
            rw [pBd_f e, e] at h
            cases h
        · rw [if_neg q1]
          exact q1
    | 3, _ =>
      rw [pP_3] at h ⊢
      cases e : (pP T n F 4 k p).1 with
      | true =>
        rw [pBd_t e] at h ⊢
        have h4 := (ih 4 k p (by decide) e).1 (by omega)
        have h2 := ih 2 k _ (by decide) h
        exact ⟨fun z => by omega, fun z => by omega, fun _ => h2.2.1 rfl h4, fun _ => h2.2.2.2 (by omega)⟩
      | false =>
        rw [pBd_f e, e] at h
        cases h
    | 4, _ =>
      rw [pP_4] at h ⊢
      cases e : (pP T n F 0 k p).1 with
      | true =>
        rw [pBd_t e] at h ⊢
        exact ⟨fun _ => (ih 1 k _ (by decide) h).1 (by omega), fun z => by omega, fun z => by omega, fun z => by omega⟩
      | false =>
        rw [pBd_f e, e] at h
        cases h
theorem dpT_app : ∀ (l m : List Int32) (d e f : Nat), dpT l d e → dpT m e f → dpT (l ++ m) d f := by
  intro l
  induction l with
  | nil => intro m d e f h1 h2; cases h1; exact h2
  | cons c l ih =>
    intro m d e f h1 h2
    rcases h1 with ⟨a, b, h⟩ | ⟨a, b, h⟩ | ⟨a, b, h⟩
    · exact Or.inl ⟨a, b, ih m _ e f h h2⟩
    · exact Or.inr (Or.inl ⟨a, b, ih m _ e f h h2⟩)
    · exact Or.inr (Or.inr ⟨a, b, ih m _ e f h h2⟩)
/-- how deep -/
theorem pP_dp : ∀ (F md k p d : Nat), md < 5 → k ≤ 4 → (pP T n F md k p).1 = true → (md = 0 → d + 2 * (4 - k) + 1 ≤ 11 → dpT (pP T n F md k p).2.2 d (d + 1)) ∧ (md = 4 → d + 2 * (4 - k) + 2 ≤ 11 → dpT (pP T n F md k p).2.2 d (d + 1)) ∧ (md = 3 → d + 2 * (4 - k) + 3 ≤ 11 → dpT (pP T n F md k p).2.2 d (d + 1)) ∧ (md = 1 → d + 2 * (4 - k) + 2 ≤ 11 → dpT (pP T n F md k p).2.2 (d + 1) (d + 1)) ∧ (md = 2 → d + 2 * (4 - k) + 3 ≤ 11 → dpT (pP T n F md k p).2.2 (d + 1) (d + 1)) := by
  intro F
  induction F with
  | zero => intro md k p d _ _ h; cases h
  | succ F ih =>
    intro md k p d hm hk h
    match md, hm with
    | 0, _ =>
      refine ⟨fun _ hd => ?_, fun z => by omega, fun z => by omega, fun z => by omega, fun z => by omega⟩
      rw [pP_0] at h ⊢
      by_cases q1 : k < 4 ∧ nxT T n p = 33
      · rw [if_pos q1] at h ⊢
        cases e : (pP T n F 0 (k + 1) (p + 1)).1 with
        | true =>
          rw [pBd_t e]
          have := (ih 0 (k + 1) (p + 1) d (by decide) (by omega) e).1 rfl (by omega)
          exact dpT_app _ _ d (d + 1) (d + 1) this (Or.inl ⟨rfl, by omega, rfl⟩)
        | false =>
          rw [pBd_f e, e] at h
          cases h
      · rw [if_neg q1] at h ⊢
        by_cases q2 : k < 4 ∧ nxT T n p = 40
        · rw [if_pos q2] at h ⊢
          cases e : (pP T n F 3 (k + 1) (p + 1)).1 with
          | true =>
            rw [pBd_t e] at h ⊢
            have := (ih 3 (k + 1) (p + 1) d (by decide) (by omega) e).2.2.1 rfl (by omega)
            by_cases q3 : nxT T n (pP T n F 3 (k + 1) (p + 1)).2.1 = 41
            · rw [if_pos q3]
              exact this
            · rw [if_neg q3] at h
              cases h
          | false =>
            rw [pBd_f e, e] at h
            cases h
        · rw [if_neg q2] at h ⊢
          obtain ⟨_, _, m, b3, b4⟩ := ts_ok h
          rw [b4]
          exact Or.inr (Or.inr ⟨⟨m, b3, rfl⟩, by omega, rfl⟩)
    | 1, _ =>
      refine ⟨fun z => by omega, fun z => by omega, fun z => by omega, fun _ hd => ?_, fun z => by omega⟩
      rw [pP_1] at h ⊢
      by_cases q1 : nxT T n p = 38
      · rw [if_pos q1] at h ⊢
        cases e : (pP T n F 0 k (p + 1)).1 with
        | true =>
          rw [pBd_t e] at h ⊢
          have h1 := (ih 0 k (p + 1) (d + 1) (by decide) hk e).1 rfl (by omega)
          have h2 := (ih 1 k _ d (by decide) hk h).2.2.2.1 rfl hd
          refine dpT_app _ _ (d + 1) (d + 1) (d + 1) (dpT_app _ _ (d + 1) (d + 2) (d + 1) h1 (Or.inr (Or.inl ⟨Or.inl rfl, by omega, rfl⟩))) h2
        | false =>
          rw [pBd_f e, e] at h
          cases h
      · rw [if_neg q1]
        rfl
    | 2, _ =>
      refine ⟨fun z => by omega, fun z => by omega, fun z => by omega, fun z => by omega, fun _ hd => ?_⟩
      rw [pP_2] at h ⊢
      by_cases q1 : nxT T n p = 124
      · rw [if_pos q1] at h ⊢
        cases e : (pP T n F 4 k (p + 1)).1 with
        | true =>
          rw [pBd_t e] at h ⊢
          have h1 := (ih 4 k (p + 1) (d + 1) (by decide) hk e).2.1 rfl (by omega)
          have h2 := (ih 2 k _ d (by decide) hk h).2.2.2.2 rfl hd
          refine dpT_app _ _ (d + 1) (d + 1) (d + 1) (dpT_app _ _ (d + 1) (d + 2) (d + 1) h1 (Or.inr (Or.inl ⟨Or.inr rfl, by omega, rfl⟩))) h2
        | false =>
          rw [pBd_f e, e] at h
          cases h
      · rw [if_neg q1]
        rfl
    | 3, _ =>
      refine ⟨fun z => by omega, fun z => by omega, fun _ hd => ?_, fun z => by omega, fun z => by omega⟩
      rw [pP_3] at h ⊢
      cases e : (pP T n F 4 k p).1 with
      | true =>
        rw [pBd_t e] at h ⊢
        have h1 := (ih 4 k p d (by decide) hk e).2.1 rfl (by omega)
        have h2 := (ih 2 k _ d (by decide) hk h).2.2.2.2 rfl hd
        exact dpT_app _ _ d (d + 1) (d + 1) h1 h2
      | false =>
        rw [pBd_f e, e] at h
        cases h
    | 4, _ =>
      refine ⟨fun z => by omega, fun _ hd => ?_, fun z => by omega, fun z => by omega, fun z => by omega⟩
      rw [pP_4] at h ⊢
      cases e : (pP T n F 0 k p).1 with
      | true =>
        rw [pBd_t e] at h ⊢
        have h1 := (ih 0 k p d (by decide) hk e).1 rfl (by omega)
        have h2 := (ih 1 k _ d (by decide) hk h).2.2.2.1 rfl hd
        exact dpT_app _ _ d (d + 1) (d + 1) h1 h2
      | false =>
        rw [pBd_f e, e] at h
        cases h
end P72
