/-! THE TWO CONSTRUCTORS: a run that asks nothing of the outside is the same for every script; the kernel runs it -/
def pm_X0 : pm_X := (0, fun _ => 0, false)
def pm_doN (d m : Nat) (i : Instr) (r : Nat × Nat × Nat) (pc : Nat) (ls : List (Option Value)) (st : List Value) (h : pm_H) : Option pm_Q := match i with
  | .getstatic _ => none
  | .iaload => none
  | .arraylength => none
  | i => pm_do pm_X0 d m i r pc ls st h
theorem pm_doN_ok {X : pm_X} {d m : Nat} {i : Instr} {r : Nat × Nat × Nat} {pc : Nat} {ls : List (Option Value)} {st : List Value} {h : pm_H} {q : pm_Q} (hq : pm_doN d m i r pc ls st h = some q) : pm_do X d m i r pc ls st h = some q := by
  cases i <;> first | exact hq | (exact absurd hq (by simp [pm_doN]))
def pm_execN : Nat → Nat → Nat → pm_St → Option pm_O
  | 0, _, _, _ => none
  | n + 1, d, m, s => match pm_at m s.1 with
    | none => none
    | some (i, r) => match pm_doN d m i r s.1 s.2.1 s.2.2.1 s.2.2.2 with
      | none => none
      | some (.inl s') => pm_execN n d m s'
      | some (.inr (.inl o)) => some o
      | some (.inr (.inr (mj, args, rest))) => match d with
        | 0 => none
        | d' + 1 => match pm_execN n d' mj (0, pm_ent (pm_ml mj) args, [], s.2.2.2) with
          | none => none
          | some o => if (pm_okr o.1 && (o.2.1.length == s.2.2.2.1.length || pm_wfs s.2.2.2.1.length s.2.1 rest)) = true then pm_execN n (d' + 1) m (s.1 + 3, s.2.1, o.1.toList ++ rest, o.2) else none
theorem pm_execN_ok (X : pm_X) : ∀ (n d m : Nat) (s : pm_St) (o : pm_O), pm_execN n d m s = some o → pm_exec X n d m s = some o := by
  intro n
  induction n with
  | zero => intro d m s o h; simp [pm_execN] at h
  | succ n ih =>
    intro d m s o h
    obtain ⟨pc, ls, st, hh⟩ := s
    rw [pm_execN] at h
    rw [pm_exec]
    dsimp only at h ⊢
    cases hat : pm_at m pc with
    | none => rw [hat] at h; simp at h
    | some ir =>
      obtain ⟨i, r⟩ := ir
      rw [hat] at h
      dsimp only at h
      cases hq : pm_doN d m i r pc ls st hh with
      | none => rw [hq] at h; simp at h
      | some q =>
        rw [hq] at h
        have hs : pm_step X d m (pc, ls, st, hh) = some q := pv_step_of hat (pm_doN_ok hq)
        rw [hs]
        rcases q with s' | o' | ⟨mj, args, rest⟩
        · exact ih _ _ _ _ h
        · exact h
        · cases d with
          | zero => exact h
          | succ d =>
            dsimp only at h ⊢
            cases hc : pm_execN n d mj (0, pm_ent (pm_ml mj) args, [], hh) with
            | none => rw [hc] at h; simp at h
            | some o2 =>
              rw [hc] at h
              rw [ih _ _ _ _ hc]
              dsimp only at h ⊢
              split at h
              · rename_i hw
                rw [if_pos hw]
                exact ih _ _ _ _ h
              · simp at h
def pm_Z : Nat → Nat → Int32 := fun _ _ => 0
def pm_ZJ : Nat → Nat → Int64 := fun _ _ => 0
/-- the class's constructor, on its new object -/
def pm_r1 : Option pm_O := pm_execN 3000 62 0 (0, pm_ent (pm_ml 0) [.ref 0], [], ([(0, 0, List.replicate (pm_nf 0) none)], pm_Z, pm_ZJ))
def pm_S1 : List pm_S := pm_S0.take 82
theorem pm_r1_S : pm_r1.map (fun o => (o.1, o.2.1)) = some (none, pm_S1) := by decide +kernel
def pm_I1 : Nat → Nat → Int32 := match pm_r1 with
  | some o => o.2.2.1
  | none => pm_Z
def pm_J1 : Nat → Nat → Int64 := match pm_r1 with
  | some o => o.2.2.2
  | none => pm_ZJ
theorem pm_r1_eq : pm_r1 = some (none, pm_S1, pm_I1, pm_J1) := by
  have h := pm_r1_S
  unfold pm_I1 pm_J1
  cases hq : pm_r1 with
  | none => rw [hq] at h; simp at h
  | some o =>
    obtain ⟨r, S, I, J⟩ := o
    rw [hq] at h
    simp at h
    simp [h.1, h.2]
/-- the reference's, behind it -/
def pm_r2 : Option pm_O := pm_execN 3000 62 106 (0, pm_ent (pm_ml 106) [.ref 82], [], (pm_S1 ++ [(0, 7, List.replicate (pm_nf 7) none)], pm_up pm_I1 82 (fun _ => 0), pm_upJ pm_J1 82 (fun _ => 0)))
theorem pm_r2_S : pm_r2.map (fun o => (o.1, o.2.1)) = some (none, pm_S0) := by decide +kernel
