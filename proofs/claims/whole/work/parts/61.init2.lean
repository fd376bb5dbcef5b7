/-! what the two constructors leave: rows of zeros but one, and a few fields -/
def pm_Iv (h : pm_H) : Prop := (∀ (a t n : Nat) (rs : List (Option Nat)), h.1[a]? = some (t, n, rs) → ¬ t = 0 → ¬ a = 119 → h.2.1 a = fun _ => 0) ∧ (∀ a, a < h.1.length → h.2.2 a = fun _ => 0)
def pm_wl (i : Instr) (st : List Value) : Bool := match i with
  | .iastore => match st with
    | .int _ :: .int _ :: .ref a :: _ => a == 119
    | _ => false
  | .putfield _ => true
  | .aastore => true
  | .new _ => true
  | .newarray _ => true
  | .anewarray _ => true
  | .aload_n _ => true
  | .iconst _ => true
  | .bipush _ => true
  | .sipush _ => true
  | .istore_n _ => true
  | .iload_n _ => true
  | .iinc _ _ => true
  | .goto _ => true
  | .if_icmp _ _ => true
  | .getfield _ => true
  | .dup => true
  | .invokespecial _ => true
  | .return_ => true
  | _ => false
def pm_execK : Nat → Nat → Nat → pm_St → Option pm_O
  | 0, _, _, _ => none
  | n + 1, d, m, s => match pm_at m s.1 with
    | none => none
    | some (i, r) => if pm_wl i s.2.2.1 = true then (match pm_doN d m i r s.1 s.2.1 s.2.2.1 s.2.2.2 with
      | none => none
      | some (.inl s') => pm_execK n d m s'
      | some (.inr (.inl o)) => some o
      | some (.inr (.inr (mj, args, rest))) => match d with
        | 0 => none
        | d' + 1 => match pm_execK n d' mj (0, pm_ent (pm_ml mj) args, [], s.2.2.2) with
          | none => none
          | some o => if (pm_okr o.1 && (o.2.1.length == s.2.2.2.1.length || pm_wfs s.2.2.2.1.length s.2.1 rest)) = true then pm_execK n (d' + 1) m (s.1 + 3, s.2.1, o.1.toList ++ rest, o.2) else none) else none
section P61
variable {X : pm_X} {d m pc : Nat} {i : Instr} {r : Nat × Nat × Nat} {ls : List (Option Value)} {st : List Value} {h : pm_H} {s' : pm_St} {o : pm_O}
theorem pm_Iv_l {S : List pm_S} {I : Nat → Nat → Int32} {J : Nat → Nat → Int64} (h : pm_Iv (S, I, J)) {a t n : Nat} {rs : List (Option Nat)} (ha : S[a]? = some (t, n, rs)) (ht : ¬ t = 0) (h9 : ¬ a = 119) : I a = fun _ => 0 := h.1 a t n rs ha ht h9
theorem pm_Iv_r {S : List pm_S} {I : Nat → Nat → Int32} {J : Nat → Nat → Int64} (h : pm_Iv (S, I, J)) {a n : Nat} (hn : S.length = n) (ha : a < n) : J a = fun _ => 0 := h.2 a (by subst hn; exact ha)
theorem pm_Iv_mk {S : List pm_S} {I : Nat → Nat → Int32} {J : Nat → Nat → Int64} (h1 : ∀ (a t n : Nat) (rs : List (Option Nat)), S[a]? = some (t, n, rs) → ¬ t = 0 → ¬ a = 119 → I a = fun _ => 0) (h2 : ∀ a, a < S.length → J a = fun _ => 0) : pm_Iv (S, I, J) := ⟨h1, h2⟩
theorem pm_Iv_set {a t n : Nat} {rs rs' : List (Option Nat)} (ha : h.1[a]? = some (t, n, rs)) (hI : pm_Iv h) : pm_Iv (h.1.set a (t, n, rs'), h.2) := by
  refine ⟨fun b t' n' rs'' hb ht hb9 => ?_, fun b hb => hI.2 b (by simpa using hb)⟩
  have hb' : (h.1.set a (t, n, rs'))[b]? = some (t', n', rs'') := hb
  rw [List.getElem?_set] at hb'
  split at hb'
  · rename_i e
    subst e
    split at hb'
    · cases hb'
      exact hI.1 _ _ _ _ ha ht hb9
    · cases hb'
  · exact hI.1 _ _ _ _ hb' ht hb9
theorem pm_Iv_nw {t n pc' : Nat} {rs : List (Option Nat)} (hq : pm_nw t n rs pc ls st h = some (.inl s')) (hI : pm_Iv h) : pm_Iv s'.2.2.2 := by
  unfold pm_nw at hq
  split at hq
  · simp only [pm_n] at hq
    cases hq
    refine ⟨fun b t' n' rs'' hb ht hb9 => ?_, fun b hb => ?_⟩
    · dsimp only at hb ⊢
      by_cases e : b = h.1.length
      · subst e
        exact pu_eq
      · rw [pu_ne e]
        rw [List.getElem?_append] at hb
        split at hb
        · exact hI.1 _ _ _ _ hb ht hb9
        · rename_i e2
          rw [List.getElem?_eq_none (by simp; omega)] at hb
          cases hb
    · dsimp only at hb ⊢
      unfold pm_upJ
      by_cases e : b = h.1.length
      · rw [if_pos e]
      · rw [if_neg e]
        refine hI.2 b ?_
        rw [List.length_append, List.length_singleton] at hb
        omega
  · cases hq
theorem pm_Iv_w {b k : Nat} {v : Int32} (hb : b = 119 ∨ ∃ c rs, h.1[b]? = some (0, c, rs)) (hI : pm_Iv h) : pm_Iv (h.1, pm_w h.2.1 b k v, h.2.2) := by
  refine ⟨fun a t n rs ha ht ha9 => ?_, hI.2⟩
  show pm_w h.2.1 b k v a = _
  have e : ¬ a = b := by
    rintro rfl
    rcases hb with rfl | ⟨c, rs', hb⟩
    · exact ha9 rfl
    · have ha' : h.1[a]? = some (t, n, rs) := ha
      rw [ha'] at hb
      cases hb
      exact ht rfl
  rw [pw_ne e]
  exact hI.1 _ _ _ _ ha ht ha9
theorem pm_isO_of {S : List pm_S} {b ci : Nat} (hb : pm_isO S b ci = true) : ∃ c rs, S[b]? = some (0, c, rs) := by
  unfold pm_isO at hb
  split at hb
  · rename_i c rs e
    exact ⟨c, rs, e⟩
  · cases hb
theorem pm_doN_iv (hw : pm_wl i st = true) (hq : pm_doN d m i r pc ls st h = some (.inl s')) (hI : pm_Iv h) : pm_Iv s'.2.2.2 := by
  cases i
  case iastore =>
    simp only [pm_doN, pm_do] at hq
    simp only [pm_wl] at hw
    split at hq
    · simp only [beq_iff_eq] at hw
      split at hq
      · simp only [pm_n] at hq
        cases hq
        exact pm_Iv_w (Or.inl hw) hI
      · cases hq
    · cases hq
  case putfield x =>
    simp only [pm_doN, pm_do, pm_pf] at hq
    split at hq
    · split at hq
      · rename_i e
        simp only [pm_n] at hq
        cases hq
        exact pm_Iv_w (Or.inr (pm_isO_of e.1)) hI
      · cases hq
    · split at hq
      · split at hq
        · rename_i e
          split at hq
          · simp only [pm_n] at hq
            cases hq
            exact pm_Iv_set e hI
          · cases hq
        · cases hq
      · cases hq
    · cases hq
  case aastore =>
    simp only [pm_doN, pm_do] at hq
    split at hq
    · split at hq
      · rename_i e
        split at hq
        · simp only [pm_n] at hq
          cases hq
          exact pm_Iv_set e hI
        · cases hq
      · cases hq
    · cases hq
  case new x =>
    simp only [pm_doN, pm_do] at hq
    exact pm_Iv_nw (pc' := 0) hq hI
  case newarray t =>
    simp only [pm_doN, pm_do, pm_na] at hq
    split at hq
    · split at hq
      · split at hq
        · cases hq
        · exact pm_Iv_nw (pc' := 0) hq hI
      · cases hq
    · cases hq
  case anewarray x =>
    simp only [pm_doN, pm_do, pm_nq] at hq
    split at hq
    · split at hq
      · cases hq
      · exact pm_Iv_nw (pc' := 0) hq hI
    · cases hq
  all_goals first
    | (exfalso; simp [pm_wl] at hw; done)
    | (simp only [pm_doN, pm_do, pm_ld, pm_ldA, pm_st, pm_g, pm_cm, pm_gf, pm_ip, pm_inv, pm_retV, pm_n] at hq
       (repeat' split at hq) <;> first | (cases hq; exact hI) | cases hq)
theorem pm_doN_ret (hw : pm_wl i st = true) (hq : pm_doN d m i r pc ls st h = some (.inr (.inl o))) (hI : pm_Iv h) : pm_Iv o.2 := by
  cases i
  case return_ =>
    simp only [pm_doN, pm_do, pm_retV] at hq
    split at hq
    · split at hq
      · cases hq
        exact hI
      · cases hq
    · cases hq
  all_goals exfalso
  all_goals first
    | (exfalso; simp [pm_wl] at hw; done)
    | (simp only [pm_doN, pm_do, pm_ld, pm_ldA, pm_st, pm_g, pm_cm, pm_gf, pm_pf, pm_ip, pm_inv, pm_na, pm_nq, pm_nw, pm_n] at hq
       (repeat' split at hq) <;> cases hq)
theorem pm_execK_ok : ∀ (n d m : Nat) (s : pm_St) (o : pm_O), pm_execK n d m s = some o → pm_Iv s.2.2.2 → pm_execN n d m s = some o ∧ pm_Iv o.2 := by
  intro n
  induction n with
  | zero => intro d m s o hr _; simp [pm_execK] at hr
  | succ n ih =>
    intro d m s o hr hI
    obtain ⟨pc, ls, st, hh⟩ := s
    rw [pm_execK] at hr
    rw [pm_execN]
    dsimp only at hr hI ⊢
    cases hat : pm_at m pc with
    | none => rw [hat] at hr; simp at hr
    | some ir =>
      obtain ⟨i, r⟩ := ir
      rw [hat] at hr
      dsimp only at hr ⊢
      split at hr
      · rename_i hw
        cases hq : pm_doN d m i r pc ls st hh with
        | none => rw [hq] at hr; simp at hr
        | some q =>
          rw [hq] at hr
          rcases q with s' | o' | ⟨mj, args, rest⟩
          · exact ih _ _ _ _ hr (pm_doN_iv hw hq hI)
          · dsimp only at hr ⊢
            cases hr
            exact ⟨rfl, pm_doN_ret hw hq hI⟩
          · cases d with
            | zero => simp at hr
            | succ d =>
              dsimp only at hr ⊢
              cases hc : pm_execK n d mj (0, pm_ent (pm_ml mj) args, [], hh) with
              | none => rw [hc] at hr; simp at hr
              | some o2 =>
                rw [hc] at hr
                have h2 := ih _ _ _ _ hc hI
                rw [h2.1]
                dsimp only at hr ⊢
                split at hr
                · rename_i hwf
                  rw [if_pos hwf]
                  exact ih _ _ _ _ hr h2.2
                · simp at hr
      · simp at hr
def pm_h1 : pm_H := ([(0, 0, List.replicate (pm_nf 0) none)], pm_Z, pm_ZJ)
theorem pm_kc1 : (pm_execK 3000 62 0 (0, pm_ent (pm_ml 0) [.ref 0], [], pm_h1)).isSome = true := by decide +kernel
theorem pm_Iv1 : pm_Iv (pm_S1, pm_I1, pm_J1) := by
  have h := pm_kc1
  cases hq : pm_execK 3000 62 0 (0, pm_ent (pm_ml 0) [.ref 0], [], pm_h1) with
  | none => rw [hq] at h; cases h
  | some o =>
    have h2 := pm_execK_ok _ _ _ _ _ hq ⟨fun _ _ _ _ _ _ _ => rfl, fun _ _ => rfl⟩
    have e : pm_r1 = some o := h2.1
    rw [pm_r1_eq] at e
    cases e
    exact h2.2
theorem pm_Iv_h2 {S : List pm_S} {I : Nat → Nat → Int32} {J : Nat → Nat → Int64} {c : pm_S} (h : pm_Iv (S, I, J)) (hS : S.length = 82) (hc : c.1 = 0 := by rfl) : pm_Iv (S ++ [c], pm_up I 82 (fun _ => 0), pm_upJ J 82 (fun _ => 0)) := by
  refine pm_Iv_mk (fun a t n rs ha ht ha9 => ?_) (fun a ha => ?_)
  · by_cases e : a = 82
    · rw [e]
      exact pu_eq
    · rw [pu_ne e]
      rw [List.getElem?_append, hS] at ha
      split at ha
      · exact pm_Iv_l h ha ht ha9
      · rw [List.getElem?_eq_none (by simp; omega)] at ha
        cases ha
  · rw [List.length_append, hS, List.length_singleton] at ha
    unfold pm_upJ
    by_cases e : a = 82
    · rw [if_pos e]
    · rw [if_neg e]
      exact pm_Iv_r h hS (by omega)
def pm_h2 : pm_H := (pm_S1 ++ [(0, 7, List.replicate (pm_nf 7) none)], pm_up pm_I1 82 (fun _ => 0), pm_upJ pm_J1 82 (fun _ => 0))
theorem pm_kc2 : (pm_execK 3000 62 106 (0, pm_ent (pm_ml 106) [.ref 82], [], pm_h2)).isSome = true := by decide +kernel
def pm_I2 : Nat → Nat → Int32 := match pm_r2 with
  | some o => o.2.2.1
  | none => pm_Z
def pm_J2 : Nat → Nat → Int64 := match pm_r2 with
  | some o => o.2.2.2
  | none => pm_ZJ
theorem pm_r2_eq : pm_r2 = some (none, pm_S0, pm_I2, pm_J2) := by
  have h := pm_r2_S
  unfold pm_I2 pm_J2
  cases hq : pm_r2 with
  | none => rw [hq] at h; simp at h
  | some o =>
    obtain ⟨r, S, I, J⟩ := o
    rw [hq] at h
    simp at h
    simp [h.1, h.2]
theorem S1_len : pm_S1.length = 82 := rfl
theorem pm_Iv2 : pm_Iv (pm_S0, pm_I2, pm_J2) := by
  have h := pm_kc2
  cases hq : pm_execK 3000 62 106 (0, pm_ent (pm_ml 106) [.ref 82], [], pm_h2) with
  | none => rw [hq] at h; cases h
  | some o =>
    have h0 : pm_Iv pm_h2 := pm_Iv_h2 pm_Iv1 S1_len
    have h2 := pm_execK_ok _ _ _ _ _ hq h0
    have e : pm_r2 = some o := h2.1
    rw [pm_r2_eq] at e
    cases e
    exact h2.2
theorem pm_I2z {a t n : Nat} {rs : List (Option Nat)} (h : pm_S0[a]? = some (t, n, rs)) (ht : ¬ t = 0) (ha : ¬ a = 119) : pm_I2 a = fun _ => 0 := pm_Iv_l pm_Iv2 h ht ha
theorem pm_J2z {a : Nat} (h : a < 123) : pm_J2 a = fun _ => 0 := pm_Iv_r pm_Iv2 S0_len h
def pm_F2 : List (Nat × Nat × Int32) := [(1, 4, 0), (1, 5, 0), (1, 10, 0), (1, 11, -1), (13, 4, 0), (13, 5, 0), (13, 10, 0), (13, 11, -1), (82, 0, 0), (82, 1, 0), (82, 34, 0), (82, 10, -1), (82, 40, 0), (82, 41, 0), (82, 42, 0), (82, 39, -1), (82, 38, 0), (82, 11, 0), (82, 9, 0), (82, 53, 0), (0, 2, 0), (0, 4, 0), (0, 7, 0), (33, 1, 0), (26, 3, 0), (119, 0, -1), (119, 1, -1), (119, 2, -1), (119, 3, -1), (119, 4, -1), (119, 5, -1), (70, 0, -1), (72, 0, -1), (74, 0, -1), (76, 0, -1), (78, 0, -1), (80, 0, -1), (70, 1, 0), (72, 1, 0), (74, 1, 0), (76, 1, 0), (78, 1, 0), (80, 1, 0)]
theorem pm_F2_ok : (match pm_r2 with
  | some o => pm_F2.all (fun q => o.2.2.1 q.1 q.2.1 == q.2.2)
  | none => false) = true := by decide +kernel
theorem pm_I2f {a k : Nat} {v : Int32} (h : (a, k, v) ∈ pm_F2) : pm_I2 a k = v := by
  have := pm_F2_ok
  rw [pm_r2_eq] at this
  have := List.all_eq_true.mp this _ h
  simpa using this
end P61
