/-! how a state of the pure machine lies in the JVM's heap -/
def pm_mv (α : Nat → Nat) (v : Value) : Value := match v with
  | .ref a => .ref (α a)
  | v => v
def pm_cell (κ : Nat → ClassId) (α : Nat → Nat) (f : Nat → Int32) (g : Nat → Int64) (c : pm_S) : va_E := match c.1 with
  | 0 => .inr (c.2.1, (List.range (pm_nf c.2.1)).map (fun k => if pm_ft c.2.1 k = 2 then pm_mv α (pm_rf (c.2.2.getD k none)) else .int (f k)))
  | 1 => .inl (κ 1, c.2.1, .inl f)
  | 2 => .inl (κ 2, c.2.1, .inl f)
  | 3 => .inl (κ 3, c.2.1, .inl f)
  | 4 => .inl (κ 4, c.2.1, .inr (.inl g))
  | 5 => .inl (κ 5, c.2.1, .inr (.inr (.inr (.inr (fun i => (c.2.2.getD i none).map α)))))
  | _ => .inl (κ 6, c.2.1, .inr (.inr (.inr (.inr (fun i => (c.2.2.getD i none).map α)))))
def pm_ws (κ : Nat → ClassId) (α : Nat → Nat) (h : pm_H) : va_W := h.1.mapIdx (fun a c => (α a, pm_cell κ α (h.2.1 a) (h.2.2 a) c))
def pm_tys (κ : Nat → ClassId) : List (ClassId × FieldType) := [(κ 1, .int), (κ 2, .byte), (κ 3, .boolean), (κ 4, .long), (κ 5, .object (pm_C 4)), (κ 6, .object (pm_C 3))]
theorem pm_ws_get {κ : Nat → ClassId} {α : Nat → Nat} {h : pm_H} {a : Nat} {c : pm_S} (hc : h.1[a]? = some c) : (pm_ws κ α h)[a]? = some (α a, pm_cell κ α (h.2.1 a) (h.2.2 a) c) := by
  simp [pm_ws, List.getElem?_mapIdx, hc]
theorem pm_ws_set {κ : Nat → ClassId} {α : Nat → Nat} {S : List pm_S} {I I' : Nat → Nat → Int32} {J J' : Nat → Nat → Int64} {a : Nat} {c' : pm_S} (hI : ∀ i, i ≠ a → I' i = I i) (hJ : ∀ i, i ≠ a → J' i = J i) : (pm_ws κ α (S, I, J)).set a (α a, pm_cell κ α (I' a) (J' a) c') = pm_ws κ α (S.set a c', I', J') := by
  apply List.ext_getElem?
  intro i
  simp only [pm_ws, List.getElem?_set, List.getElem?_mapIdx, List.length_mapIdx]
  by_cases h : a = i
  · subst h
    by_cases hl : a < S.length
    · simp [hl]
    · simp [hl]
  · simp only [if_neg h]
    rw [hI i (fun q => h q.symm), hJ i (fun q => h q.symm)]
theorem pm_set_self {S : List pm_S} {a : Nat} {c : pm_S} (h : S[a]? = some c) : S.set a c = S := by
  apply List.ext_getElem?
  intro i
  rw [List.getElem?_set]
  by_cases q : a = i
  · subst q
    have hl : a < S.length := (List.getElem?_eq_some_iff.mp h).1
    simp [hl]
    exact (List.getElem?_eq_some_iff.mp h).2.symm
  · simp [q]
theorem pm_ws_setI {κ : Nat → ClassId} {α : Nat → Nat} {h : pm_H} {I' : Nat → Nat → Int32} {J' : Nat → Nat → Int64} {a : Nat} {c : pm_S} (hc : h.1[a]? = some c) (hI : ∀ i, i ≠ a → I' i = h.2.1 i) (hJ : ∀ i, i ≠ a → J' i = h.2.2 i) : (pm_ws κ α h).set a (α a, pm_cell κ α (I' a) (J' a) c) = pm_ws κ α (h.1, I', J') := by
  have := pm_ws_set (κ := κ) (α := α) (S := h.1) (I := h.2.1) (J := h.2.2) (c' := c) hI hJ
  rw [pm_set_self hc] at this
  exact this
/-- α and α' say the same of what was there -/
def pm_ag (n : Nat) (α α' : Nat → Nat) : Prop := ∀ k, (k < n ∨ 1000000 ≤ k) → α' k = α k
def pm_ext (n n' : Nat) (α α' : Nat → Nat) : Prop := pm_ag n α α' ∧ (n' = n → α' = α)
theorem pm_mv_ag {n : Nat} {α α' : Nat → Nat} (h : pm_ag n α α') {v : Value} (hv : pm_wfv n v = true) : pm_mv α' v = pm_mv α v := by
  cases v with
  | ref a =>
    have : a < n ∨ 1000000 ≤ a := by simpa [pm_wfv] using hv
    simp [pm_mv, h a this]
  | _ => rfl
theorem pm_mvs_ag {n : Nat} {α α' : Nat → Nat} (h : pm_ag n α α') {st : List Value} (hv : st.all (pm_wfv n) = true) : st.map (pm_mv α') = st.map (pm_mv α) := by
  apply List.map_congr_left
  intro v hm
  exact pm_mv_ag h (List.all_eq_true.mp hv v hm)
theorem pm_map_ag {n : Nat} {α α' : Nat → Nat} (h : pm_ag n α α') {r : Option Nat} (hr : pm_wfr n r = true) : r.map α' = r.map α := by
  cases r with
  | none => rfl
  | some a =>
    have : a < n ∨ 1000000 ≤ a := by simpa [pm_wfr] using hr
    simp [h a this]
theorem pm_getD_wf {n : Nat} {rs : List (Option Nat)} (hr : rs.all (pm_wfr n) = true) (i : Nat) : pm_wfr n (rs.getD i none) = true := by
  rw [List.getD_eq_getElem?_getD]
  cases h : rs[i]? with
  | none => rfl
  | some r => exact List.all_eq_true.mp hr r (List.mem_of_getElem? h)
theorem pm_cell_ag {n : Nat} {κ : Nat → ClassId} {α α' : Nat → Nat} (h : pm_ag n α α') {f : Nat → Int32} {g : Nat → Int64} {c : pm_S} (hc : c.2.2.all (pm_wfr n) = true) : pm_cell κ α' f g c = pm_cell κ α f g c := by
  have e5 : (fun i => (c.2.2.getD i none).map α') = (fun i => (c.2.2.getD i none).map α) := by
    funext i
    exact pm_map_ag h (pm_getD_wf hc i)
  have e0 : ∀ k, pm_mv α' (pm_rf (c.2.2.getD k none)) = pm_mv α (pm_rf (c.2.2.getD k none)) := by
    intro k
    have := pm_getD_wf hc k
    cases hq : c.2.2.getD k none with
    | none => rfl
    | some b =>
      rw [hq] at this
      exact pm_mv_ag h (by simpa [pm_rf, pm_wfv, pm_wfr] using this)
  unfold pm_cell
  simp only [e5, e0]
theorem pm_ws_new {κ : Nat → ClassId} {α α' : Nat → Nat} {S : List pm_S} {I : Nat → Nat → Int32} {J : Nat → Nat → Int64} {c : pm_S} {q : Nat} (hag : pm_ag S.length α α') (hq : α' S.length = q) (hwf : pm_wfh S.length S = true) (f : Nat → Int32) (g : Nat → Int64) : pm_ws κ α' (S ++ [c], pm_up I S.length f, pm_upJ J S.length g) = pm_ws κ α (S, I, J) ++ [(q, pm_cell κ α' f g c)] := by
  apply List.ext_getElem?
  intro i
  simp only [pm_ws, List.getElem?_mapIdx, List.getElem?_append, List.length_mapIdx]
  by_cases hi : i < S.length
  · simp only [if_pos hi]
    cases hc : S[i]? with
    | none => rfl
    | some c0 =>
      have hw : c0.2.2.all (pm_wfr S.length) = true := List.all_eq_true.mp hwf c0 (List.mem_of_getElem? hc)
      have hne : i ≠ S.length := by omega
      simp only [Option.map_some, pm_up, pm_upJ, if_neg hne]
      rw [hag i (Or.inl hi), pm_cell_ag hag hw]
  · simp only [if_neg hi]
    by_cases he : i = S.length
    · subst he
      simp [pm_up, pm_upJ, hq]
    · have : i - S.length ≠ 0 := by omega
      obtain ⟨j, hj⟩ : ∃ j, i - S.length = j + 1 := ⟨i - S.length - 1, by omega⟩
      simp [hj]
/-- the locals -/
def pm_LH (α : Nat → Nat) (arr : Array Slot) (nL : Nat) (ls : List (Option Value)) : Prop := ls.length = nL ∧ ∃ lv, lv_has arr nL lv ∧ ∀ i v, ls[i]? = some (some v) → (i, pm_mv α v) ∈ lv
theorem pm_LH_at {α : Nat → Nat} {arr : Array Slot} {nL : Nat} {ls : List (Option Value)} (h : pm_LH α arr nL ls) {i : Nat} {v : Value} (hi : ls[i]? = some (some v)) : arr[i]? = some (.val (pm_mv α v)) := by
  obtain ⟨_, lv, hl, hm⟩ := h
  exact hl.2.2 _ (hm i v hi)
theorem pm_LH_ag {n : Nat} {α α' : Nat → Nat} (hag : pm_ag n α α') {arr : Array Slot} {nL : Nat} {ls : List (Option Value)} (h : pm_LH α arr nL ls) (hw : ls.all (pm_wfo n) = true) : pm_LH α' arr nL ls := by
  obtain ⟨h0, lv, hl, hm⟩ := h
  refine ⟨h0, lv, hl, fun i v hi => ?_⟩
  have := List.all_eq_true.mp hw (some v) (List.mem_of_getElem? hi)
  rw [pm_mv_ag hag (by simpa [pm_wfo] using this)]
  exact hm i v hi
theorem pm_mv_cat {α : Nat → Nat} (v : Value) : (pm_mv α v).category = v.category := by cases v <;> rfl
theorem pm_clr_get {ls : List (Option Value)} {i j : Nat} {v : Value} (h : (pm_clr ls i)[j]? = some (some v)) : ls[j]? = some (some v) ∧ ¬ (j + 1 = i ∧ v.category = 2) := by
  unfold pm_clr at h
  split at h
  · exact ⟨h, by omega⟩
  · rename_i k
    split at h
    · rename_i x hx
      rw [List.getElem?_set] at h
      split at h
      · split at h <;> simp at h
      · exact ⟨h, by omega⟩
    · rename_i x hx
      rw [List.getElem?_set] at h
      split at h
      · split at h <;> simp at h
      · exact ⟨h, by omega⟩
    · rename_i h1 h2
      refine ⟨h, ?_⟩
      rintro ⟨hk, hc⟩
      obtain rfl : j = k := by omega
      cases v with
      | long x => exact h1 x h
      | double x => exact h2 x h
      | _ => simp [Value.category] at hc
theorem pm_clr_len (ls : List (Option Value)) (i : Nat) : (pm_clr ls i).length = ls.length := by
  unfold pm_clr
  split
  · rfl
  · split <;> simp
theorem pm_sto_has {α : Nat → Nat} {arr' : Array Slot} {nL i : Nat} {ls : List (Option Value)} {lv : List (Nat × Value)} {w : Value} (h0 : ls.length = nL) (hm : ∀ i v, ls[i]? = some (some v) → (i, pm_mv α v) ∈ lv) (h : lv_has arr' nL ((i, pm_mv α w) :: lv.filter (fun q => !(q.1 == i) && !(q.1 + 1 == i && q.2.category == 2)))) : pm_LH α arr' nL (pm_sto ls i w) := by
  refine ⟨by simp [pm_sto, pm_clr_len, h0], _, h, fun j v hj => ?_⟩
  unfold pm_sto at hj
  rw [List.getElem?_set] at hj
  split at hj
  · rename_i hij
    subst hij
    split at hj
    · cases hj
      exact List.mem_cons_self
    · simp at hj
  · rename_i hij
    obtain ⟨h1, h2⟩ := pm_clr_get hj
    refine List.mem_cons_of_mem _ (List.mem_filter.mpr ⟨hm j v h1, ?_⟩)
    have e1 : (j == i) = false := by simpa using fun q => hij q.symm
    rw [pm_mv_cat]
    by_cases hc : v.category = 2
    · have : (j + 1 == i) = false := by simpa using fun q => h2 ⟨q, hc⟩
      simp [e1, this]
    · have : (v.category == 2) = false := by simpa using hc
      simp [e1, this]
theorem pm_stoL_has {α : Nat → Nat} {arr' : Array Slot} {nL i : Nat} {ls : List (Option Value)} {lv : List (Nat × Value)} {w : Value} (h0 : ls.length = nL) (hm : ∀ i v, ls[i]? = some (some v) → (i, pm_mv α v) ∈ lv) (h : lv_has arr' nL ((i, pm_mv α w) :: lv.filter (fun q => !(q.1 == i) && (!(q.1 == i + 1) && !(q.1 + 1 == i && q.2.category == 2))))) : pm_LH α arr' nL (pm_stoL ls i w) := by
  refine ⟨by simp [pm_stoL, pm_clr_len, h0], _, h, fun j v hj => ?_⟩
  unfold pm_stoL at hj
  rw [List.getElem?_set] at hj
  split at hj
  · split at hj <;> simp at hj
  · rename_i hij1
    rw [List.getElem?_set] at hj
    split at hj
    · rename_i hij
      subst hij
      split at hj
      · cases hj
        exact List.mem_cons_self
      · simp at hj
    · rename_i hij
      obtain ⟨h1, h2⟩ := pm_clr_get hj
      refine List.mem_cons_of_mem _ (List.mem_filter.mpr ⟨hm j v h1, ?_⟩)
      have e1 : (j == i) = false := by simpa using fun q => hij q.symm
      have e2 : (j == i + 1) = false := by simpa using fun q => hij1 q.symm
      rw [pm_mv_cat]
      by_cases hc : v.category = 2
      · have : (j + 1 == i) = false := by simpa using fun q => h2 ⟨q, hc⟩
        simp [e1, e2, this]
      · have : (v.category == 2) = false := by simpa using hc
        simp [e1, e2, this]
/-- slots of a heap -/
def pm_cs (c : pm_S) : Nat := match c.1 with
  | 0 => pm_nf c.2.1
  | _ => c.2.1
def pm_sz (S : List pm_S) : Nat := (S.map pm_cs).sum
theorem pm_sz_app (S : List pm_S) (c : pm_S) : pm_sz (S ++ [c]) = pm_sz S + pm_cs c := by simp [pm_sz]
theorem pm_sz_set {S : List pm_S} {a t c : Nat} {rs rs' : List (Option Nat)} (h : S[a]? = some (t, c, rs)) : pm_sz (S.set a (t, c, rs')) = pm_sz S := by
  have : (S.set a (t, c, rs')).map pm_cs = S.map pm_cs := by
    apply List.ext_getElem?
    intro i
    simp only [List.getElem?_map, List.getElem?_set]
    by_cases hi : a = i
    · subst hi
      have hl : a < S.length := (List.getElem?_eq_some_iff.mp h).1
      have he : S[a] = (t, c, rs) := (List.getElem?_eq_some_iff.mp h).2
      simp [hl, he, pm_cs]
    · simp [hi]
  unfold pm_sz
  rw [this]
