/-! THE SIMULATION: what the pure machine runs, the JVM runs -/
theorem pm_do_inr {X : pm_X} {d m pc : Nat} {i : Instr} {r : Nat × Nat × Nat} {ls : List (Option Value)} {st : List Value} {h : pm_H} {q : pm_O ⊕ (Nat × List Value × List Value)} (hs : pm_do X d m i r pc ls st h = some (.inr q)) : (∃ x, i = .invokevirtual x) ∨ (∃ x, i = .invokestatic x) ∨ (∃ x, i = .invokespecial x) ∨ i = .ireturn ∨ i = .lreturn ∨ i = .areturn ∨ i = .return_ := by
  cases i with
  | invokevirtual x => exact Or.inl ⟨x, rfl⟩
  | invokestatic x => exact Or.inr (Or.inl ⟨x, rfl⟩)
  | invokespecial x => exact Or.inr (Or.inr (Or.inl ⟨x, rfl⟩))
  | ireturn => simp
  | lreturn => simp
  | areturn => simp
  | return_ => simp
  | ifCond cc o =>
    exfalso
    revert hs
    simp only [pm_do, pm_cz, pm_n]
    (repeat' split) <;> simp
  | if_icmp cc o =>
    exfalso
    revert hs
    simp only [pm_do, pm_cm, pm_n]
    (repeat' split) <;> simp
  | _ =>
    exfalso
    revert hs
    simp only [pm_do, pm_ld, pm_ldL, pm_ldA, pm_st, pm_stA, pm_stJ, pm_i1, pm_i2, pm_d2, pm_l2, pm_e2, pm_ts, pm_lk, pm_gf, pm_pf, pm_nw, pm_na, pm_nq, pm_g, pm_n]
    all_goals ((repeat' split) <;> simp)
theorem pm_inv_inv {mj k pc : Nat} {st : List Value} {q : pm_O ⊕ (Nat × List Value × List Value)} (hs : pm_inv mj k pc st = some (.inr q)) : k ≤ st.length ∧ q = .inr (mj, (st.take k).reverse, st.drop k) ∧ pm_smc (st.drop k) ≤ 8 ∧ (pm_args (st.take k).reverse).length ≤ pm_ml mj := by
  unfold pm_inv at hs
  split at hs
  · rename_i z
    cases hs
    exact ⟨z.1, rfl, z.2.1, z.2.2⟩
  · cases hs
theorem pm_iv_inr {r : Nat × Nat × Nat} {pc d : Nat} {ls : List (Option Value)} {st : List Value} {h : pm_H} {q : pm_O ⊕ (Nat × List Value × List Value)} (hs : pm_iv r pc d ls st h = some (.inr q)) : r.1 = 0 ∧ pm_rcv h.1 (pm_ci r.2.1) st[pm_na0 r.2.1]? = true ∧ pm_inv r.2.1 (pm_na0 r.2.1 + 1) pc st = some (.inr q) := by
  unfold pm_iv at hs
  split at hs
  · rename_i e0
    split at hs
    · rename_i z
      exact ⟨e0, z, hs⟩
    · cases hs
  all_goals exfalso
  all_goals revert hs
  all_goals try simp only [pm_n]
  all_goals ((repeat' split) <;> simp)
theorem pm_is_inr {r : Nat × Nat × Nat} {pc d : Nat} {ls : List (Option Value)} {st : List Value} {h : pm_H} {q : pm_O ⊕ (Nat × List Value × List Value)} (hs : pm_is r pc d ls st h = some (.inr q)) : r.1 = 0 ∧ pm_inv r.2.1 (pm_na0 r.2.1) pc st = some (.inr q) := by
  unfold pm_is at hs
  split at hs
  · rename_i e0
    exact ⟨e0, hs⟩
  all_goals exfalso
  all_goals revert hs
  all_goals try simp only [pm_cp, pm_n]
  all_goals ((repeat' split) <;> simp)
theorem pm_ip_inr {r : Nat × Nat × Nat} {pc d : Nat} {ls : List (Option Value)} {st : List Value} {h : pm_H} {q : pm_O ⊕ (Nat × List Value × List Value)} (hs : pm_ip r pc d ls st h = some (.inr q)) : r.1 = 0 ∧ (∃ b, st[pm_na0 r.2.1]? = some (.ref b)) ∧ pm_inv r.2.1 (pm_na0 r.2.1 + 1) pc st = some (.inr q) := by
  unfold pm_ip at hs
  split at hs
  · rename_i e0
    split at hs
    · rename_i b z
      exact ⟨e0, ⟨b, z⟩, hs⟩
    · cases hs
  all_goals exfalso
  all_goals revert hs
  all_goals try simp only [pm_n]
  all_goals ((repeat' split) <;> simp)
/-- the instruction that ends a method with this answer -/
def pm_rd (m pc : Nat) (r : Option Value) : Prop := match r with
  | none => decode (pm_b m) pc = .ok (.return_, 1) ∧ pm_rk m = 0
  | some (.int v) => decode (pm_b m) pc = .ok (.ireturn, 1) ∧ (pm_rk m = 1 ∨ (pm_rk m = 2 ∧ (v = 0 ∨ v = 1)) ∨ (pm_rk m = 5 ∧ v = (v.toUInt32 % 65536).toInt32))
  | some (.long _) => decode (pm_b m) pc = .ok (.lreturn, 1) ∧ pm_rk m = 3
  | some (.ref _) => decode (pm_b m) pc = .ok (.areturn, 1) ∧ pm_rk m = 4
  | _ => False
theorem pm_iv_no {r : Nat × Nat × Nat} {pc d : Nat} {ls : List (Option Value)} {st : List Value} {h : pm_H} {o : pm_O} (hs : pm_iv r pc d ls st h = some (.inr (.inl o))) : False := by
  have := (pm_inv_inv (pm_iv_inr hs).2.2).2.1
  cases this
theorem pm_is_no {r : Nat × Nat × Nat} {pc d : Nat} {ls : List (Option Value)} {st : List Value} {h : pm_H} {o : pm_O} (hs : pm_is r pc d ls st h = some (.inr (.inl o))) : False := by
  have := (pm_inv_inv (pm_is_inr hs).2).2.1
  cases this
theorem pm_ip_no {r : Nat × Nat × Nat} {pc d : Nat} {ls : List (Option Value)} {st : List Value} {h : pm_H} {o : pm_O} (hs : pm_ip r pc d ls st h = some (.inr (.inl o))) : False := by
  have := (pm_inv_inv (pm_ip_inr hs).2.2).2.1
  cases this
theorem pm_do_ret {X : pm_X} {d m pc : Nat} {i : Instr} {r : Nat × Nat × Nat} {ls : List (Option Value)} {st : List Value} {h : pm_H} {o : pm_O} (hd : decode (pm_b m) pc = .ok (i, pm_il i r)) (hs : pm_do X d m i r pc ls st h = some (.inr (.inl o))) : pm_rd m pc o.1 ∧ o.2 = h ∧ st = o.1.toList := by
  rcases pm_do_inr hs with ⟨x, rfl⟩ | ⟨x, rfl⟩ | ⟨x, rfl⟩ | rfl | rfl | rfl | rfl
  · exact (pm_iv_no (d := d) (ls := ls) hs).elim
  · exact (pm_is_no hs).elim
  · exact (pm_ip_no hs).elim
  · simp only [pm_do, pm_ret] at hs
    split at hs
    · split at hs
      · rename_i q
        cases hs
        exact ⟨⟨hd, q⟩, rfl, rfl⟩
      · cases hs
    · cases hs
  · simp only [pm_do, pm_retL] at hs
    split at hs
    · split at hs
      · rename_i q
        cases hs
        exact ⟨⟨hd, q⟩, rfl, rfl⟩
      · cases hs
    · cases hs
  · simp only [pm_do, pm_retA] at hs
    split at hs
    · split at hs
      · rename_i q
        cases hs
        exact ⟨⟨hd, q⟩, rfl, rfl⟩
      · cases hs
    · cases hs
  · simp only [pm_do, pm_retV] at hs
    split at hs
    · split at hs
      · rename_i q
        cases hs
        exact ⟨⟨hd, q⟩, rfl, rfl⟩
      · cases hs
    · cases hs
theorem pm_le_tr {a b c : pm_H} (h1 : pm_le a b) (h2 : pm_le b c) : pm_le a c := ⟨Nat.le_trans h1.1 h2.1, Nat.le_trans h1.2 h2.2⟩
theorem pm_step_do {X : pm_X} {d m pc : Nat} {ls : List (Option Value)} {st : List Value} {h : pm_H} {q : pm_Q} (hs : pm_step X d m (pc, ls, st, h) = some q) : ∃ i r, pm_at m pc = some (i, r) ∧ pm_do X d m i r pc ls st h = some q := by
  unfold pm_step at hs
  split at hs
  · rename_i i r hq
    exact ⟨i, r, hq, hs⟩
  · cases hs
theorem pm_exec_le (X : pm_X) : ∀ (n d m : Nat) (s : pm_St) (o : pm_O), pm_exec X n d m s = some o → pm_le s.2.2.2 o.2 := by
  intro n
  induction n with
  | zero => intro d m s o h; simp [pm_exec] at h
  | succ n ih =>
    intro d m s o h
    obtain ⟨pc, ls, st, hh⟩ := s
    rw [pm_exec] at h
    cases hs : pm_step X d m (pc, ls, st, hh) with
    | none => rw [hs] at h; simp at h
    | some q =>
      rw [hs] at h
      obtain ⟨i, r, hat, hdo⟩ := pm_step_do hs
      rcases q with s' | o' | ⟨mj, args, rest⟩
      · exact pm_le_tr (pm_do_mono hdo) (ih _ _ _ _ h)
      · cases h
        have := pm_do_inr hdo
        have e : o.2 = hh := by
          rcases pm_do_inr hdo with ⟨x, rfl⟩ | ⟨x, rfl⟩ | ⟨x, rfl⟩ | rfl | rfl | rfl | rfl
          · exact (pm_iv_no (d := d) (ls := ls) hdo).elim
          · exact (pm_is_no hdo).elim
          · exact (pm_ip_no hdo).elim
          · simp only [pm_do, pm_ret] at hdo
            split at hdo
            · split at hdo <;> cases hdo
              rfl
            · cases hdo
          · simp only [pm_do, pm_retL] at hdo
            split at hdo
            · split at hdo <;> cases hdo
              rfl
            · cases hdo
          · simp only [pm_do, pm_retA] at hdo
            split at hdo
            · split at hdo <;> cases hdo
              rfl
            · cases hdo
          · simp only [pm_do, pm_retV] at hdo
            split at hdo
            · split at hdo <;> cases hdo
              rfl
            · cases hdo
        rw [e]
        exact pm_le_rf
      · cases d with
        | zero => simp at h
        | succ d =>
          dsimp only at h
          cases hc : pm_exec X n d mj (0, pm_ent (pm_ml mj) args, [], hh) with
          | none => rw [hc] at h; simp at h
          | some o2 =>
            rw [hc] at h
            dsimp only at h
            split at h
            · have h1 := ih _ _ _ _ hc
              have h2 := ih _ _ _ _ h
              exact pm_le_tr h1 h2
            · simp at h
/-- locals at an entry -/
theorem pm_args_len (α : Nat → Nat) : ∀ vs : List Value, (lg_sl (vs.map (pm_mv α))).length = (pm_args vs).length := by
  intro vs
  induction vs with
  | nil => rfl
  | cons v vs ih =>
    unfold lg_sl at ih ⊢
    rw [List.map_cons, List.flatMap_cons, List.length_append, ih]
    cases v <;> simp [pm_args, pm_mv, Value.category] <;> omega
theorem pm_args_at (α : Nat → Nat) : ∀ (vs : List Value) (b i : Nat) (v : Value), (pm_args vs)[i]? = some (some v) → (b + i, pm_mv α v) ∈ lv_args b (vs.map (pm_mv α)) := by
  intro vs
  induction vs with
  | nil => intro b i v h; simp [pm_args] at h
  | cons w vs ih =>
    have one : ∀ (b i : Nat) (v : Value), w.category = 1 → (some w :: pm_args vs)[i]? = some (some v) → (b + i, pm_mv α v) ∈ lv_args b ((w :: vs).map (pm_mv α)) := by
      intro b i v hw h
      rw [List.map_cons, lv_args, if_neg (by rw [pm_mv_cat]; omega)]
      cases i with
      | zero => cases h; exact List.mem_cons_self
      | succ i => exact List.mem_cons_of_mem _ (by have := ih (b + 1) i v h; rwa [Nat.add_assoc, Nat.add_comm 1 i] at this)
    have two : ∀ (b i : Nat) (v : Value), w.category = 2 → (some w :: none :: pm_args vs)[i]? = some (some v) → (b + i, pm_mv α v) ∈ lv_args b ((w :: vs).map (pm_mv α)) := by
      intro b i v hw h
      rw [List.map_cons, lv_args, if_pos (by rw [pm_mv_cat]; exact hw)]
      match i, h with
      | 0, h => cases h; exact List.mem_cons_self
      | 1, h => simp at h
      | i + 2, h => exact List.mem_cons_of_mem _ (by have := ih (b + 2) i v h; rwa [Nat.add_assoc, Nat.add_comm 2 i] at this)
    intro b i v h
    cases w with
    | long x => exact two b i v rfl h
    | double x => exact two b i v rfl h
    | _ => exact one b i v rfl h
theorem pm_LH_ent {α : Nat → Nat} {arr : Array Slot} {nL : Nat} {vs : List Value} (hl : lv_has arr nL (lv_args 0 (vs.map (pm_mv α)))) (hlen : (pm_args vs).length ≤ nL) : pm_LH α arr nL (pm_ent nL vs) := by
  refine ⟨by simp [pm_ent]; omega, _, hl, fun i v hi => ?_⟩
  unfold pm_ent at hi
  rw [List.getElem?_append] at hi
  split at hi
  · have := pm_args_at α vs 0 i v hi
    rwa [Nat.zero_add] at this
  · rw [List.getElem?_replicate] at hi
    split at hi <;> simp at hi
/-- what a call leaves -/
def pm_Be (D : va_G) (κ : Nat → ClassId) (A : Nat → Prop) (h : pm_H) (α : Nat → Nat) (t : State) : Prop := va_P D pm_cl8 (pm_ws κ α h) t.heap ∧ va_K D pm_cl8 (pm_tys κ) t ∧ va_D A (pm_ws κ α h)
def pm_Qc (D : va_G) (κ : Nat → ClassId) (A : Nat → Prop) (α : Nat → Nat) (n : Nat) (o : pm_O) : Array Value → State → Outcome → State → Prop := match o.1 with
  | none => va_Qv (fun α' => pm_ext n o.2.1.length α α') (pm_Be D κ A o.2) A
  | some (.int v) => va_Qi (fun r α' => r = v ∧ pm_ext n o.2.1.length α α') (pm_Be D κ A o.2) A
  | some (.long v) => va_Ql (fun r α' => r = v ∧ pm_ext n o.2.1.length α α') (pm_Be D κ A o.2) A
  | some (.ref k) => va_Qr (fun α' => pm_ext n o.2.1.length α α') (fun α' a t => a = α' k ∧ pm_Be D κ A o.2 α' t) A
  | _ => fun _ _ _ _ => False
def pm_rm (d mc ms : Nat) : Room := { frames := d, cells := mc, slots := ms, locals := 64 * d }
def pm_wsm (m : Nat) : List Cond := .code (pm_y m) (pm_b m) (pm_ml m) (pm_rt m) :: lw_g
def pm_Pc (X : pm_X) (D : va_G) (κ : Nat → ClassId) (α : Nat → Nat) (sz : Nat) (h : pm_H) (args : List Value) : Array Value → State → Prop := va_Pc (args.map (pm_mv α)) (fun U => U.heap.size = sz ∧ va_P D pm_cl8 (pm_ws κ α h) U.heap ∧ va_K D pm_cl8 (pm_tys κ) U ∧ va_D (fun _ => True) (pm_ws κ α h) ∧ pm_OF X α (va_A (pm_ws κ α h) sz) U U.heap)
theorem pm_Pc_blind (X : pm_X) (D : va_G) (κ : Nat → ClassId) (α : Nat → Nat) (sz : Nat) (h : pm_H) (args : List Value) : FrameBlind (pm_Pc X D κ α sz h args) := by
  intro a U g mk q
  obtain ⟨q0, q1, qP, qK, qD, qO⟩ := q
  exact ⟨q0, q1, qP, va_K.moved (u := U) (U := U.calling g mk a) (Vm.Alike.refl U.vm) qK, qD, pm_OF_same (u := U) (U := U.calling g mk a) qO rfl rfl⟩
/-- a frame's run, from any of its instructions on: by the fuel -/
def pm_Sim (X : pm_X) (n : Nat) : Prop := ∀ (d m pc : Nat) (ls : List (Option Value)) (st : List Value) (h : pm_H) (o : pm_O), pm_exec X n d m (pc, ls, st, h) = some o →
  ∀ (p : Program) (l : Launch) (e : Env) (R : Room) (s : State) (m' : MethodId) (args : Array Value) (below : List Frame) (meth : Method) (c : Code) (D : va_G) (κ : Nat → ClassId) (A : Nat → Prop) (Q : State → Prop) (α : Nat → Nat) (arr : Array Slot) (H : Heap) (locs : List Loc) (cells slots mc ms : Nat),
  pm_Fr p s args m' meth c m → pm_OF X α A s s.heap → (∀ q, s.heap.size ≤ q → A q) → d ≤ R.frames ∧ 64 * d ≤ R.locals → va_K D pm_cl8 (pm_tys κ) s → pm_LH α arr (pm_ml m) ls → pm_Re D κ α A s h H locs →
  cells + o.2.1.length ≤ mc + h.1.length → slots + pm_sz o.2.1 ≤ ms + pm_sz h.1 → mc ≤ R.cells → ms ≤ R.slots →
  (∀ (α' : Nat → Nat) (arr' : Array Slot) (H' : Heap) (locs' : List Loc) (cells' slots' pc' : Nat), pm_ext h.1.length o.2.1.length α α' → pm_Re D κ α' A s o.2 H' locs' → cells' ≤ mc → slots' ≤ ms → pm_rd m pc' o.1 → W p l e R s m' args below meth c H' locs' cells' slots' Q (F0 m' pc' arr' (o.1.toList.map (pm_mv α')))) →
  W p l e R s m' args below meth c H locs cells slots Q (F0 m' pc arr (st.map (pm_mv α)))
theorem pm_rt_of {m : Nat} (hm : pm_mok m = true) : (pm_rk m = 0 → pm_rt m = none) ∧ (pm_rk m = 1 → pm_rt m = some .int) ∧ (pm_rk m = 2 → pm_rt m = some .boolean ∨ pm_rt m = some .byte) ∧ (pm_rk m = 3 → pm_rt m = some .long) ∧ (pm_rk m = 5 → pm_rt m = some .char) ∧ (pm_rk m = 4 → ∃ n, pm_rt m = some (.object n)) := by
  simp only [pm_mok, Bool.and_eq_true, decide_eq_true_eq] at hm
  obtain ⟨⟨⟨_, h1⟩, h2⟩, _⟩ := hm
  refine ⟨h1.1, h1.2.1, h1.2.2.1, h1.2.2.2.1, h1.2.2.2.2, fun h4 => ?_⟩
  split at h2
  · rename_i n hq
    exact ⟨n, hq⟩
  · have := of_decide_eq_true h2
    omega
/-- a method's contract, at one run of the pure machine -/
theorem pm_met (X : pm_X) (n : Nat) (IH : pm_Sim X n) (l : Launch) (D : va_G) (κ : Nat → ClassId) (α : Nat → Nat) (sz d mj : Nat) (hm : pm_mok mj = true) (args0 : List Value) (h : pm_H) (o : pm_O) (hlen : (pm_args args0).length ≤ pm_ml mj) (hr : pm_exec X n d mj (0, pm_ent (pm_ml mj) args0, [], h) = some o) : Met l (pm_y mj) (pm_wsm mj) (pm_rm d (o.2.1.length - h.1.length) (pm_sz o.2.1 - pm_sz h.1)) (pm_Pc X D κ α sz h args0) (pm_Qc D κ (va_A (pm_ws κ α h) sz) α h.1.length o) (o.2.1.length - h.1.length) (pm_sz o.2.1 - pm_sz h.1) (va_A (pm_ws κ α h) sz) := by
  have hle := pm_exec_le X n d mj _ _ hr
  have hpl : plainName (pm_y mj).cls = true := by
    simp only [pm_mok, Bool.and_eq_true] at hm
    exact hm.1.1.1.1.2
  refine Met.ofW (cc := pm_b mj) (maxL := pm_ml mj) (ret := pm_rt mj) hpl rfl ?_
  intro p e s m args below meth c s₁ B hml hv
  obtain ⟨rfl, hsz, hP, hK, hD0, hO⟩ := hv
  have hx := B.exec
  have hb := B.bytes
  have hret := B.returns
  have hts0 := atoms_spec (ws := pm_wsm mj) B.pre
  have hts : ∀ w ∈ lw_g, w.before (args0.map (pm_mv α)).toArray s = true := fun w hw => hts0 w (List.mem_cons_of_mem _ hw)
  have hown : s.vm.findClass (pm_own mj) = some m.cls := findClass_of_methodNamed B.named
  have hlocks := B.notSynchronized
  have hnm : meth.name = (pm_y mj).name := (name_of_methodNamed B.named B.method).1
  subst hsz
  have hD := hD0.self (sz := s.heap.size)
  have hA : ∀ q : Nat, s.heap.size ≤ q → va_A (pm_ws κ α h) s.heap.size q := fun q z => Or.inr z
  have hl := lv_entry (args0.map (pm_mv α)) (n := pm_ml mj) (by rw [pm_args_len]; exact hlen)
  rw [lg_entry_eq]
  generalize (lg_sl (args0.map (pm_mv α)) ++ List.replicate (pm_ml mj - (lg_sl (args0.map (pm_mv α))).length) Slot.unset).toArray = arr at hl ⊢
  have F : pm_Fr p s (args0.map (pm_mv α)).toArray m meth c mj := ⟨hx, hb, hml, hown, hts, hlocks, hret, fun z => hnm.trans z⟩
  refine IH d mj 0 _ [] h o hr p l e _ s m _ below meth c D κ (va_A (pm_ws κ α h) s.heap.size) _ α arr s.heap [] 0 0 (o.2.1.length - h.1.length) (pm_sz o.2.1 - pm_sz h.1) F hO hA ⟨Nat.le_refl _, Nat.le_refl _⟩ hK (pm_LH_ent hl hlen) ⟨hP, hD, va_S.rf⟩ (by omega) (by have := hle.2; show 0 + pm_sz o.2.1 ≤ pm_sz o.2.1 - pm_sz h.1 + pm_sz h.1; simp only at this; omega) (Nat.le_refl _) (Nat.le_refl _) ?_
  intro α' arr' H' locs' cells' slots' pc' hext hRe hc hs hrd
  obtain ⟨hP', hD', hS'⟩ := hRe
  obtain ⟨t0, t1, t2, t3, t5, t4⟩ := pm_rt_of hm
  obtain ⟨r, h'⟩ := o
  refine W.widen hc hs ?_
  have hBe : ∀ t : State, t.heap = H' → s.WarmedH t.vm → pm_Be D κ (va_A (pm_ws κ α h) s.heap.size) h' α' t := fun t ht hW => ⟨by rw [ht]; exact hP', va_K.moved hW.alike hK, hD'⟩
  match r, hrd with
  | none, hrd =>
    exact W.vret hx hb (hret.trans (t0 hrd.2)) (fun t ht hW => ⟨⟨α', rfl, hext, hBe t ht hW⟩, hS'.F ht⟩) hS'.2.2 hrd.1
  | some (.int v), hrd =>
    rcases hrd.2 with q | ⟨q, z⟩ | ⟨q, z⟩
    · exact W.iret (v := v) hx hb (hret.trans (t1 q)) (fun t ht hW => ⟨⟨v, α', rfl, ⟨rfl, hext⟩, hBe t ht hW⟩, hS'.F ht⟩) hS'.2.2 hrd.1
    · rcases t2 q with t2 | t2
      · exact W.zret (v := v) (ty := .boolean) hx hb (hret.trans t2) (by rcases z with rfl | rfl <;> rfl) (fun t ht hW => ⟨⟨v, α', rfl, ⟨rfl, hext⟩, hBe t ht hW⟩, hS'.F ht⟩) hS'.2.2 hrd.1
      · exact W.zret (v := v) (ty := .byte) hx hb (hret.trans t2) (by rcases z with rfl | rfl <;> rfl) (fun t ht hW => ⟨⟨v, α', rfl, ⟨rfl, hext⟩, hBe t ht hW⟩, hS'.F ht⟩) hS'.2.2 hrd.1
    · exact W.zret (v := v) (ty := .char) hx hb (hret.trans (t5 q)) (by have := pk_nc v; rw [← z] at this; exact this) (fun t ht hW => ⟨⟨v, α', rfl, ⟨rfl, hext⟩, hBe t ht hW⟩, hS'.F ht⟩) hS'.2.2 hrd.1
  | some (.long v), hrd =>
    exact W.lret (v := v) hx hb (hret.trans (t3 hrd.2)) (fun t ht hW => ⟨⟨v, α', rfl, ⟨rfl, hext⟩, hBe t ht hW⟩, hS'.F ht⟩) hS'.2.2 hrd.1
  | some (.ref k), hrd =>
    obtain ⟨nm, hn⟩ := t4 hrd.2
    exact W.aret (v := .ref (α' k)) (rt := .object nm) hx hb (hret.trans hn) (Or.inl ⟨nm, rfl⟩) (Or.inr ⟨_, rfl⟩) (fun t ht hW => ⟨⟨α', α' k, rfl, hext, rfl, hBe t ht hW⟩, hS'.F ht⟩) hS'.2.2 hrd.1
