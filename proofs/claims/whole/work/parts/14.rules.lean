/-! RULES of the pure machine: an instruction, an equation -/
def pm_opt {β : Type} (o : Option β) (P : β → Prop) : Prop := match o with
  | some v => P v
  | none => False
theorem pm_opt_some {β : Type} (v : β) (P : β → Prop) : pm_opt (some v) P = P v := rfl
theorem pm_opt_none {β : Type} (P : β → Prop) : pm_opt (none : Option β) P = False := rfl
theorem pm_opt_if {β : Type} (b : Bool) (v : β) (P : β → Prop) : pm_opt (if b = true then none else some v) P = (b = false ∧ P v) := by
  cases b <;> simp [pm_opt]
/-- behind a call -/
def pm_k (X : pm_X) (d m pc : Nat) (ls : List (Option Value)) (st : List Value) (n : Nat) (Q : pm_O → Prop) : pm_O → Prop := fun o => (pm_okr o.1 && (o.2.1.length == n || pm_wfs n ls st)) = true ∧ pm_V X d m pc ls (o.1.toList ++ st) o.2 Q
section PMV
variable {X : pm_X} {d m pc : Nat} {i : Instr} {r : Nat × Nat × Nat} {ls ls' : List (Option Value)} {st st' : List Value} {h h' : pm_H} {Q : pm_O → Prop} {S : List pm_S} {I : Nat → Nat → Int32} {J : Nat → Nat → Int64}
theorem pk_v : pm_k X d m pc ls st S.length Q (none, (S, I, J)) = pm_V X d m pc ls st (S, I, J) Q := by simp [pm_k, pm_okr]
theorem pk_i {x : Int32} : pm_k X d m pc ls st S.length Q (some (.int x), (S, I, J)) = pm_V X d m pc ls (.int x :: st) (S, I, J) Q := by simp [pm_k, pm_okr]
theorem pk_l {x : Int64} : pm_k X d m pc ls st S.length Q (some (.long x), (S, I, J)) = pm_V X d m pc ls (.long x :: st) (S, I, J) Q := by simp [pm_k, pm_okr]
theorem pk_r {x : Nat} : pm_k X d m pc ls st S.length Q (some (.ref x), (S, I, J)) = pm_V X d m pc ls (.ref x :: st) (S, I, J) Q := by simp [pm_k, pm_okr]
theorem pv_step_of {q : pm_Q} (a : pm_at m pc = some (i, r)) (hd : pm_do X d m i r pc ls st h = some q) : pm_step X d m (pc, ls, st, h) = some q := by
  unfold pm_step
  simp only [a]
  exact hd
theorem pv_e {pc' : Nat} (a : pm_at m pc = some (i, r)) (hd : pm_do X d m i r pc ls st h = some (.inl (pc', ls', st', h'))) : pm_V X d m pc ls st h Q = pm_V X d m pc' ls' st' h' Q := propext (pm_V_step (pv_step_of a hd))
theorem pv_if {p1 p2 : Nat} {b : Prop} [hb : Decidable b] (a : pm_at m pc = some (i, r)) (hd : pm_do X d m i r pc ls st h = if b then some (.inl (p1, ls, st', h)) else some (.inl (p2, ls, st', h))) : pm_V X d m pc ls st h Q = if b then pm_V X d m p1 ls st' h Q else pm_V X d m p2 ls st' h Q := by
  by_cases q : b
  · rw [if_pos q] at hd ⊢
    exact pv_e a hd
  · rw [if_neg q] at hd ⊢
    exact pv_e a hd
theorem pv_ret {o : pm_O} (a : pm_at m pc = some (i, r)) (hd : pm_do X d m i r pc ls st h = some (.inr (.inl o))) : pm_V X d m pc ls st h Q = Q o := propext (pm_V_ret (pv_step_of a hd))
theorem pv_rz {v : Int32} (a : pm_at m pc = some (.ireturn, r)) (hk : pm_rk m = 2) : pm_V X d m pc ls [.int v] h Q = ((v = 0 ∨ v = 1) ∧ Q (some (.int v), h)) := by
  by_cases q : v = 0 ∨ v = 1
  · rw [pv_ret (o := (some (.int v), h)) a (by simp only [pm_do, pm_ret]; rw [if_pos (Or.inr (Or.inl ⟨hk, q⟩))])]
    simp [q]
  · have : pm_step X d m (pc, ls, [.int v], h) = none := by
      unfold pm_step
      simp only [a, pm_do, pm_ret]
      rw [if_neg]
      rintro (z | ⟨_, z⟩ | ⟨z, _⟩)
      · omega
      · exact q z
      · omega
    rw [propext (pm_V_none this)]
    simp [q]
theorem pv_no (a : pm_at m pc = some (i, r)) (hd : pm_do X d m i r pc ls st h = none) : pm_V X d m pc ls st h Q = False := by
  have : pm_step X d m (pc, ls, st, h) = none := by
    unfold pm_step
    simp only [a]
    exact hd
  exact propext (pm_V_none this)
theorem pv_and {pc' : Nat} {b : Bool} (a : pm_at m pc = some (i, r)) (hd : pm_do X d m i r pc ls st h = if b = true then some (.inl (pc', ls', st', h')) else none) : pm_V X d m pc ls st h Q = (b = true ∧ pm_V X d m pc' ls' st' h' Q) := by
  cases b with
  | true => rw [pv_e a hd]; simp
  | false => rw [pv_no a hd]; simp
theorem pv_andP {pc' : Nat} {b : Prop} [hb : Decidable b] (a : pm_at m pc = some (i, r)) (hd : pm_do X d m i r pc ls st h = if b then some (.inl (pc', ls', st', h')) else none) : pm_V X d m pc ls st h Q = (b ∧ pm_V X d m pc' ls' st' h' Q) := by
  by_cases q : b
  · rw [if_pos q] at hd
    rw [pv_e a hd]
    simp [q]
  · rw [if_neg q] at hd
    rw [pv_no a hd]
    simp [q]
theorem pv_nz {pc' : Nat} {y : Int32} (a : pm_at m pc = some (i, r)) (hd : pm_do X d m i r pc ls st h = if y = 0 then none else some (.inl (pc', ls', st', h'))) : pm_V X d m pc ls st h Q = (¬ y = 0 ∧ pm_V X d m pc' ls' st' h' Q) := by
  by_cases q : y = 0
  · rw [if_pos q] at hd
    rw [pv_no a hd]
    simp [q]
  · rw [if_neg q] at hd
    rw [pv_e a hd]
    simp [q]
theorem pv_nzL {pc' : Nat} {y : Int64} (a : pm_at m pc = some (i, r)) (hd : pm_do X d m i r pc ls st h = if y = 0 then none else some (.inl (pc', ls', st', h'))) : pm_V X d m pc ls st h Q = (¬ y = 0 ∧ pm_V X d m pc' ls' st' h' Q) := by
  by_cases q : y = 0
  · rw [if_pos q] at hd
    rw [pv_no a hd]
    simp [q]
  · rw [if_neg q] at hd
    rw [pv_e a hd]
    simp [q]
theorem pv_opt {β : Type} {pc' : Nat} {o : Option β} {f : β → Value} (a : pm_at m pc = some (i, r)) (hs : ∀ v, o = some v → pm_do X d m i r pc ls st h = some (.inl (pc', ls, f v :: st', h))) (hn : o = none → pm_do X d m i r pc ls st h = none) : pm_V X d m pc ls st h Q = pm_opt o (fun v => pm_V X d m pc' ls (f v :: st') h Q) := by
  cases o with
  | none => exact pv_no a (hn rfl)
  | some v => exact pv_e a (hs v rfl)
theorem pv_gfI {x ci k pl : Nat} {b : Nat} (a : pm_at m pc = some (.getfield x, (ci, k, pl))) (hf : Nat.beq (pm_ft ci k) 2 = false) (h20 : Nat.beq ci 20 = false) : pm_V X d m pc ls (.ref b :: st) (S, I, J) Q = (pm_isO S b ci = true ∧ pm_V X d m (pc + 3) ls (.int (I b k) :: st) (S, I, J) Q) := by
  have hf : ¬ pm_ft ci k = 2 := fun z => by rw [z] at hf; cases hf
  have h20 : ¬ ci = 20 := fun z => by rw [z] at h20; cases h20
  exact pv_and (b := pm_isO S b ci) a (by simp only [pm_do, pm_gf]; rw [if_neg h20, if_neg hf]; rfl)
theorem pv_gfR {x ci k pl : Nat} {b : Nat} (a : pm_at m pc = some (.getfield x, (ci, k, pl))) (hf : Nat.beq (pm_ft ci k) 2 = true) (h20 : Nat.beq ci 20 = false) : pm_V X d m pc ls (.ref b :: st) (S, I, J) Q = pm_opt (pm_rg S b ci k) (fun v => pm_V X d m (pc + 3) ls (v :: st) (S, I, J) Q) := by
  have hf : pm_ft ci k = 2 := Nat.eq_of_beq_eq_true hf
  have h20 : ¬ ci = 20 := fun z => by rw [z] at h20; cases h20
  exact pv_opt (f := fun v => v) a (fun v hv => by simp only [pm_do, pm_gf, pm_n]; rw [if_neg h20, if_pos hf, hv]) (fun hv => by simp only [pm_do, pm_gf]; rw [if_neg h20, if_pos hf, hv])
theorem pv_gfS {x k pl : Nat} {b : Nat} (a : pm_at m pc = some (.getfield x, (20, k, pl))) : pm_V X d m pc ls (.ref b :: st) (S, I, J) Q = pm_opt (pm_txt b) (fun _ => pm_V X d m (pc + 3) ls ((if k = 0 then Value.ref (b + 20) else .int 0) :: st) (S, I, J) Q) :=
  pv_opt (f := fun _ => if k = 0 then Value.ref (b + 20) else .int 0) a (fun v hv => by simp only [pm_do, pm_gf, pm_n, hv, if_true]) (fun hv => by simp only [pm_do, pm_gf, hv, if_true])
theorem pv_rc {v : Int32} (a : pm_at m pc = some (.ireturn, r)) (hk : pm_rk m = 5) (hv : v = (v.toUInt32 % 65536).toInt32) : pm_V X d m pc ls [.int v] h Q = Q (some (.int v), h) := by
  rw [pv_ret (o := (some (.int v), h)) a (by simp only [pm_do, pm_ret]; rw [if_pos (Or.inr (Or.inr ⟨hk, hv⟩))])]
theorem pv_pfI {x ci k pl : Nat} {b : Nat} {v : Int32} (a : pm_at m pc = some (.putfield x, (ci, k, pl))) (hf : Nat.beq (pm_ft ci k) 0 = true) : pm_V X d m pc ls (.int v :: .ref b :: st) (S, I, J) Q = (pm_isO S b ci = true ∧ pm_V X d m (pc + 3) ls st (S, pm_w I b k v, J) Q) := by
  have hf : pm_ft ci k = 0 := Nat.eq_of_beq_eq_true hf
  refine pv_and (b := pm_isO S b ci) a ?_
  simp only [pm_do, pm_pf, hf]
  simp [pm_n]
theorem pv_pfZ {x ci k pl : Nat} {b : Nat} {v : Int32} (a : pm_at m pc = some (.putfield x, (ci, k, pl))) (hf : Nat.beq (pm_ft ci k) 1 = true) : pm_V X d m pc ls (.int v :: .ref b :: st) (S, I, J) Q = (pm_isO S b ci = true ∧ (v = 0 ∨ v = 1) ∧ pm_V X d m (pc + 3) ls st (S, pm_w I b k v, J) Q) := by
  have hf : pm_ft ci k = 1 := Nat.eq_of_beq_eq_true hf
  rw [pv_andP (b := pm_isO S b ci = true ∧ (v = 0 ∨ v = 1)) (ls' := ls) (st' := st) (h' := (S, pm_w I b k v, J)) (pc' := pc + 3) a]
  · simp [and_assoc]
  · simp only [pm_do, pm_pf, hf]
    simp [pm_n]
theorem pv_call {mj : Nat} {args rest : List Value} (a : pm_at m pc = some (i, r)) (hd : pm_do X d m i r pc ls st h = some (.inr (.inr (mj, args, rest)))) : pm_V X d m pc ls st h Q = pm_cl X d mj args h (pm_k X d m (pc + 3) ls rest h.1.length Q) := propext (pm_V_call (pv_step_of a hd))
theorem pv_callV {x mj pl b : Nat} {as rest : List Value} (a : pm_at m pc = some (.invokevirtual x, (0, mj, pl))) (h20 : Nat.beq (pm_ci mj) 20 = false) (hst : st = as.reverse ++ .ref b :: rest) (hn : as.length = pm_na0 mj) (hs : pm_smc rest ≤ 8) (hl : (pm_args (.ref b :: as)).length ≤ pm_ml mj) : pm_V X d m pc ls st (S, I, J) Q = (pm_isO S b (pm_ci mj) = true ∧ pm_cl X d mj (.ref b :: as) (S, I, J) (pm_k X d m (pc + 3) ls rest S.length Q)) := by
  have e1 : st[pm_na0 mj]? = some (.ref b) := by
    rw [hst, ← hn]
    simp
  have e2 : st.take (pm_na0 mj + 1) = as.reverse ++ [.ref b] := by
    rw [hst, ← hn, show as.reverse ++ .ref b :: rest = (as.reverse ++ [.ref b]) ++ rest by simp, List.take_append_of_le_length (by simp), List.take_of_length_le (by simp)]
  have e3 : st.drop (pm_na0 mj + 1) = rest := by
    rw [hst, ← hn, show as.reverse ++ .ref b :: rest = (as.reverse ++ [.ref b]) ++ rest by simp, List.drop_append_of_le_length (by simp), List.drop_eq_nil_of_le (by simp), List.nil_append]
  have e4 : pm_na0 mj + 1 ≤ st.length := by
    rw [hst, ← hn]
    simp
  have e5 : (st.take (pm_na0 mj + 1)).reverse = .ref b :: as := by rw [e2]; simp
  have h20 : ¬ pm_ci mj = 20 := fun z => by rw [z] at h20; cases h20
  cases hq : pm_isO S b (pm_ci mj) with
  | true =>
    rw [pv_call (mj := mj) (args := .ref b :: as) (rest := rest) a]
    · simp
    · simp only [pm_do, pm_iv, e1, pm_rcv, if_neg h20, hq, if_true]
      unfold pm_inv
      rw [e5, e3, if_pos ⟨e4, hs, hl⟩]
  | false =>
    rw [pv_no a]
    · simp
    · simp [pm_do, pm_iv, e1, pm_rcv, h20, hq]
theorem pv_callT {x mj pl b : Nat} {as rest : List Value} (a : pm_at m pc = some (.invokevirtual x, (0, mj, pl))) (h20 : Nat.beq (pm_ci mj) 20 = true) (hst : st = as.reverse ++ .ref b :: rest) (hn : as.length = pm_na0 mj) (hs : pm_smc rest ≤ 8) (hl : (pm_args (.ref b :: as)).length ≤ pm_ml mj) : pm_V X d m pc ls st (S, I, J) Q = ((pm_txt b).isSome = true ∧ pm_cl X d mj (.ref b :: as) (S, I, J) (pm_k X d m (pc + 3) ls rest S.length Q)) := by
  have e1 : st[pm_na0 mj]? = some (.ref b) := by
    rw [hst, ← hn]
    simp
  have e2 : st.take (pm_na0 mj + 1) = as.reverse ++ [.ref b] := by
    rw [hst, ← hn, show as.reverse ++ .ref b :: rest = (as.reverse ++ [.ref b]) ++ rest by simp, List.take_append_of_le_length (by simp), List.take_of_length_le (by simp)]
  have e3 : st.drop (pm_na0 mj + 1) = rest := by
    rw [hst, ← hn, show as.reverse ++ .ref b :: rest = (as.reverse ++ [.ref b]) ++ rest by simp, List.drop_append_of_le_length (by simp), List.drop_eq_nil_of_le (by simp), List.nil_append]
  have e4 : pm_na0 mj + 1 ≤ st.length := by
    rw [hst, ← hn]
    simp
  have e5 : (st.take (pm_na0 mj + 1)).reverse = .ref b :: as := by rw [e2]; simp
  have h20 : pm_ci mj = 20 := Nat.eq_of_beq_eq_true h20
  cases hq : (pm_txt b).isSome with
  | true =>
    rw [pv_call (mj := mj) (args := .ref b :: as) (rest := rest) a]
    · simp
    · simp only [pm_do, pm_iv, e1, pm_rcv, if_pos h20, hq, if_true]
      unfold pm_inv
      rw [e5, e3, if_pos ⟨e4, hs, hl⟩]
  | false =>
    rw [pv_no a]
    · simp
    · simp [pm_do, pm_iv, e1, pm_rcv, h20, hq]
theorem pv_callS {x mj pl : Nat} {as rest : List Value} (a : pm_at m pc = some (.invokestatic x, (0, mj, pl))) (hst : st = as.reverse ++ rest) (hn : as.length = pm_na0 mj) (hs : pm_smc rest ≤ 8) (hl : (pm_args as).length ≤ pm_ml mj) : pm_V X d m pc ls st (S, I, J) Q = pm_cl X d mj as (S, I, J) (pm_k X d m (pc + 3) ls rest S.length Q) := by
  have e2 : st.take (pm_na0 mj) = as.reverse := by
    rw [hst, ← hn, List.take_append_of_le_length (by simp), List.take_of_length_le (by simp)]
  have e3 : st.drop (pm_na0 mj) = rest := by
    rw [hst, ← hn, List.drop_append_of_le_length (by simp), List.drop_eq_nil_of_le (by simp), List.nil_append]
  have e4 : pm_na0 mj ≤ st.length := by
    rw [hst, ← hn]
    simp
  have e5 : (st.take (pm_na0 mj)).reverse = as := by rw [e2]; simp
  rw [pv_call (mj := mj) (args := as) (rest := rest) a]
  simp only [pm_do, pm_is]
  unfold pm_inv
  rw [e5, e3, if_pos ⟨e4, hs, hl⟩]
end PMV
section PMX
variable {X : pm_X} {d m pc : Nat} {i : Instr} {r : Nat × Nat × Nat} {ls ls' : List (Option Value)} {st st' : List Value} {h h' : pm_H} {Q : pm_O → Prop} {S : List pm_S} {I : Nat → Nat → Int32} {J : Nat → Nat → Int64}
theorem pv_cz {c : ClassFile.Cond} {off : Int} {tgt n3 : Nat} {x : Int32} {b : Prop} [hb : Decidable b] (hd : ∀ (y z : Option pm_Q), (match c with
    | .eq => if x = 0 then y else z
    | .ne => if ¬ x = 0 then y else z
    | .lt => if x < 0 then y else z
    | .ge => if 0 ≤ x then y else z
    | .gt => if 0 < x then y else z
    | .le => if x ≤ 0 then y else z) = if b then y else z) (a : pm_at m pc = some (.ifCond c off, r)) (h0 : 0 ≤ (pc : Int) + off) (hj : pm_j pc off = tgt) (h3 : pc + 3 = n3) : pm_V X d m pc ls (.int x :: st) h Q = if b then pm_V X d m tgt ls st h Q else pm_V X d m n3 ls st h Q := by
  subst hj h3
  refine pv_if a ?_
  simp only [pm_do, pm_cz]
  rw [if_pos h0]
  exact hd _ _
theorem pv_cm {c : ClassFile.Cond} {off : Int} {tgt n3 : Nat} {x y : Int32} {b : Prop} [hb : Decidable b] (hd : ∀ (u z : Option pm_Q), (match c with
    | .eq => if x = y then u else z
    | .ne => if ¬ x = y then u else z
    | .lt => if x < y then u else z
    | .ge => if y ≤ x then u else z
    | .gt => if y < x then u else z
    | .le => if x ≤ y then u else z) = if b then u else z) (a : pm_at m pc = some (.if_icmp c off, r)) (h0 : 0 ≤ (pc : Int) + off) (hj : pm_j pc off = tgt) (h3 : pc + 3 = n3) : pm_V X d m pc ls (.int y :: .int x :: st) h Q = if b then pm_V X d m tgt ls st h Q else pm_V X d m n3 ls st h Q := by
  subst hj h3
  refine pv_if a ?_
  simp only [pm_do, pm_cm]
  rw [if_pos h0]
  exact hd _ _
theorem pv_go {off : Int} {tgt : Nat} (a : pm_at m pc = some (.goto off, r)) (h0 : 0 ≤ (pc : Int) + off) (hj : pm_j pc off = tgt) : pm_V X d m pc ls st h Q = pm_V X d m tgt ls st h Q := by
  subst hj
  refine pv_e a ?_
  simp only [pm_do, pm_g]
  rw [if_pos h0]
  rfl
theorem pv_tsd {dd lo hi : Int} {offs : Array Int} {tgt : Nat} {x : Int32} (a : pm_at m pc = some (.tableswitch dd lo hi offs, r)) (hx : x.toInt < lo ∨ hi < x.toInt) (h0 : 0 ≤ (pc : Int) + dd) (hj : pm_j pc dd = tgt) : pm_V X d m pc ls (.int x :: st) h Q = pm_V X d m tgt ls st h Q := by
  subst hj
  refine pv_e a ?_
  simp only [pm_do, pm_ts, pm_g]
  rw [if_pos hx, if_pos h0]
  rfl
theorem pv_tsi {dd lo hi : Int} {offs : Array Int} {tgt : Nat} {o : Int} {x : Int32} (a : pm_at m pc = some (.tableswitch dd lo hi offs, r)) (hx : ¬ (x.toInt < lo ∨ hi < x.toInt)) (ho : offs[(x.toInt - lo).toNat]? = some o) (h0 : 0 ≤ (pc : Int) + o) (hj : pm_j pc o = tgt) : pm_V X d m pc ls (.int x :: st) h Q = pm_V X d m tgt ls st h Q := by
  subst hj
  refine pv_e a ?_
  simp only [pm_do, pm_ts, pm_g]
  rw [if_neg hx]
  simp only [ho]
  rw [if_pos h0]
  rfl
theorem pv_lk {dd o : Int} {ps : Array (Int × Int)} {tgt : Nat} {x : Int32} (a : pm_at m pc = some (.lookupswitch dd ps, r)) (ho : Op.lookupswitch.offset ps.toList dd x.toInt = o) (h0 : 0 ≤ (pc : Int) + o) (hj : pm_j pc o = tgt) : pm_V X d m pc ls (.int x :: st) h Q = pm_V X d m tgt ls st h Q := by
  subst hj
  refine pv_e a ?_
  simp only [pm_do, pm_lk, pm_g, ho]
  rw [if_pos h0]
  rfl
theorem pv_ia {b : Nat} {j : Int32} (a : pm_at m pc = some (.iaload, r)) : pm_V X d m pc ls (.int j :: .ref b :: st) (S, I, J) Q = pm_opt (pm_ia X S I b j) (fun v => pm_V X d m (pc + 1) ls (.int v :: st) (S, I, J) Q) := by
  exact pv_opt (f := fun v => .int v) a (fun v hv => by simp only [pm_do, hv, pm_n]) (fun hv => by simp only [pm_do, hv])
theorem pv_ba {b : Nat} {j : Int32} (a : pm_at m pc = some (.baload, r)) : pm_V X d m pc ls (.int j :: .ref b :: st) (S, I, J) Q = pm_opt (pm_ba S I b j) (fun v => pm_V X d m (pc + 1) ls (.int v :: st) (S, I, J) Q) := by
  exact pv_opt (f := fun v => .int v) a (fun v hv => by simp only [pm_do, hv, pm_n]) (fun hv => by simp only [pm_do, hv])
theorem pv_la {b : Nat} {j : Int32} (a : pm_at m pc = some (.laload, r)) : pm_V X d m pc ls (.int j :: .ref b :: st) (S, I, J) Q = pm_opt (pm_la S J b j) (fun v => pm_V X d m (pc + 1) ls (.long v :: st) (S, I, J) Q) := by
  exact pv_opt (f := fun v => .long v) a (fun v hv => by simp only [pm_do, hv, pm_n]) (fun hv => by simp only [pm_do, hv])
theorem pv_aa {b : Nat} {j : Int32} (a : pm_at m pc = some (.aaload, r)) : pm_V X d m pc ls (.int j :: .ref b :: st) (S, I, J) Q = pm_opt (pm_aa S b j) (fun v => pm_V X d m (pc + 1) ls (v :: st) (S, I, J) Q) := by
  exact pv_opt (f := fun v => v) a (fun v hv => by simp only [pm_do, hv, pm_n]) (fun hv => by simp only [pm_do, hv])
theorem pv_ln {b : Nat} (a : pm_at m pc = some (.arraylength, r)) : pm_V X d m pc ls (.ref b :: st) (S, I, J) Q = pm_opt (pm_len X S b) (fun v => pm_V X d m (pc + 1) ls (.int v :: st) (S, I, J) Q) := by
  exact pv_opt (f := fun v => .int v) a (fun v hv => by simp only [pm_do, hv, pm_n]) (fun hv => by simp only [pm_do, hv])
theorem pv_is {b : Nat} {j x : Int32} (a : pm_at m pc = some (.iastore, r)) : pm_V X d m pc ls (.int x :: .int j :: .ref b :: st) (S, I, J) Q = (pm_okw S 1 b j = true ∧ pm_V X d m (pc + 1) ls st (S, pm_w I b j.toNatClampNeg x, J) Q) := pv_and a rfl
theorem pv_ls {b : Nat} {j : Int32} {x : Int64} (a : pm_at m pc = some (.lastore, r)) : pm_V X d m pc ls (.long x :: .int j :: .ref b :: st) (S, I, J) Q = (pm_okw S 4 b j = true ∧ pm_V X d m (pc + 1) ls st (S, I, pm_wJ J b j.toNatClampNeg x) Q) := pv_and a rfl
theorem pv_bs {b : Nat} {j x : Int32} (a : pm_at m pc = some (.bastore, r)) : pm_V X d m pc ls (.int x :: .int j :: .ref b :: st) (S, I, J) Q = if pm_okw S 2 b j = true then pm_V X d m (pc + 1) ls st (S, pm_w I b j.toNatClampNeg (vp_nar .byte x), J) Q else (pm_okw S 3 b j = true ∧ pm_V X d m (pc + 1) ls st (S, pm_w I b j.toNatClampNeg (vp_nar .boolean x), J) Q) := by
  by_cases q : pm_okw S 2 b j = true
  · rw [if_pos q]
    refine pv_e a ?_
    simp only [pm_do]
    rw [if_pos q]
    rfl
  · rw [if_neg q]
    refine pv_and a ?_
    simp only [pm_do]
    rw [if_neg q]
    rfl
theorem pv_mx {x y : Int32} {pl z : Nat} {w : Nat} (a : pm_at m pc = some (.invokestatic w, (4, z, pl))) (hs : pm_smc st ≤ 8) : pm_V X d m pc ls (.int y :: .int x :: st) h Q = (2 ≤ d ∧ pm_V X d m (pc + 3) ls (.int (if x < y then y else x) :: st) h Q) := by
  refine pv_andP (b := 2 ≤ d) a ?_
  simp only [pm_do, pm_is, pm_n]
  simp [hs]
theorem pv_mn {x y : Int32} {pl z : Nat} {w : Nat} (a : pm_at m pc = some (.invokestatic w, (5, z, pl))) (hs : pm_smc st ≤ 8) : pm_V X d m pc ls (.int y :: .int x :: st) h Q = (2 ≤ d ∧ pm_V X d m (pc + 3) ls (.int (if y < x then y else x) :: st) h Q) := by
  refine pv_andP (b := 2 ≤ d) a ?_
  simp only [pm_do, pm_is, pm_n]
  simp [hs]
theorem pv_ab {x : Int32} {pl z : Nat} {w : Nat} (a : pm_at m pc = some (.invokestatic w, (6, z, pl))) (hs : pm_smc st ≤ 8) : pm_V X d m pc ls (.int x :: st) h Q = (2 ≤ d ∧ pm_V X d m (pc + 3) ls (.int (if 0 ≤ x then x else 0 - x) :: st) h Q) := by
  refine pv_andP (b := 2 ≤ d) a ?_
  simp only [pm_do, pm_is, pm_n]
  simp [hs]
theorem pv_cp {n dp sp : Int32} {u v : Nat} {pl z : Nat} {w : Nat} (a : pm_at m pc = some (.invokestatic w, (7, z, pl))) (hs : pm_smc st ≤ 8) : pm_V X d m pc ls (.int n :: .int dp :: .ref v :: .int sp :: .ref u :: st) (S, I, J) Q = (2 ≤ d ∧ if pm_cpo S 1 u sp v dp n = true then pm_V X d m (pc + 3) ls st (S, pm_up I v (va_cpy (I u) (I v) sp.toNatClampNeg dp.toNatClampNeg n.toNatClampNeg), J) Q else (pm_cpo S 4 u sp v dp n = true ∧ pm_V X d m (pc + 3) ls st (S, I, pm_upJ J v (va_cpy (J u) (J v) sp.toNatClampNeg dp.toNatClampNeg n.toNatClampNeg)) Q)) := by
  by_cases q0 : 2 ≤ d
  · by_cases q : pm_cpo S 1 u sp v dp n = true
    · rw [if_pos q, eq_true q0, true_and]
      refine pv_e a ?_
      simp only [pm_do, pm_is, pm_cp]
      rw [if_pos ⟨q0, hs⟩, if_pos q]
      rfl
    · rw [if_neg q, eq_true q0, true_and]
      refine pv_and a ?_
      simp only [pm_do, pm_is, pm_cp]
      rw [if_pos ⟨q0, hs⟩, if_neg q]
      rfl
  · rw [pv_no a]
    · simp [q0]
    · simp only [pm_do, pm_is, pm_cp]
      rw [if_neg (fun z => q0 z.1)]
theorem pv_oi {b : Nat} {pl z : Nat} {w : Nat} (a : pm_at m pc = some (.invokespecial w, (8, z, pl))) : pm_V X d m pc ls [.ref b] h Q = (2 ≤ d ∧ pm_V X d m (pc + 3) ls [] h Q) := pv_andP (b := 2 ≤ d) a (by simp only [pm_do, pm_ip, pm_n])
theorem pv_nw {ci pl z w : Nat} (a : pm_at m pc = some (.new w, (ci, pl, z))) : pm_V X d m pc ls st (S, I, J) Q = ((pm_wfs S.length ls st && pm_wfh S.length S && decide (S.length < 1000000)) = true ∧ pm_V X d m (pc + 3) ls (.ref S.length :: st) (S ++ [(0, ci, List.replicate (pm_nf ci) none)], pm_up I S.length (fun _ => 0), pm_upJ J S.length (fun _ => 0)) Q) := pv_and a rfl
theorem pv_pfR {x ci k pl : Nat} {b v : Nat} (a : pm_at m pc = some (.putfield x, (ci, k, pl))) (hf : Nat.beq (pm_ft ci k) 2 = true) : pm_V X d m pc ls (.ref v :: .ref b :: st) (S, I, J) Q = (pm_isO S b ci = true ∧ pm_opt S[b]? (fun c => k < c.2.2.length ∧ pm_V X d m (pc + 3) ls st (S.set b (c.1, c.2.1, c.2.2.set k (some v)), I, J) Q)) := by
  have hf : pm_ft ci k = 2 := Nat.eq_of_beq_eq_true hf
  cases q : pm_isO S b ci with
  | false =>
    rw [pv_no a]
    · simp
    · simp [pm_do, pm_pf, q]
  | true =>
    cases q2 : S[b]? with
    | none =>
      rw [pv_no a]
      · simp [pm_opt]
      · simp [pm_do, pm_pf, q, hf, q2]
    | some c =>
      obtain ⟨t, cc, rs⟩ := c
      rw [pv_andP (b := k < rs.length) (ls' := ls) (st' := st) (pc' := pc + 3) (h' := (S.set b (t, cc, rs.set k (some v)), I, J)) a]
      · simp [pm_opt]
      · simp [pm_do, pm_pf, q, hf, q2, pm_n]
theorem pv_callI {x mj pl b : Nat} {as rest : List Value} (a : pm_at m pc = some (.invokespecial x, (0, mj, pl))) (hst : st = as.reverse ++ .ref b :: rest) (hn : as.length = pm_na0 mj) (hs : pm_smc rest ≤ 8) (hl : (pm_args (.ref b :: as)).length ≤ pm_ml mj) : pm_V X d m pc ls st (S, I, J) Q = pm_cl X d mj (.ref b :: as) (S, I, J) (pm_k X d m (pc + 3) ls rest S.length Q) := by
  have e1 : st[pm_na0 mj]? = some (.ref b) := by
    rw [hst, ← hn]
    simp
  have e2 : st.take (pm_na0 mj + 1) = as.reverse ++ [.ref b] := by
    rw [hst, ← hn, show as.reverse ++ .ref b :: rest = (as.reverse ++ [.ref b]) ++ rest by simp, List.take_append_of_le_length (by simp), List.take_of_length_le (by simp)]
  have e3 : st.drop (pm_na0 mj + 1) = rest := by
    rw [hst, ← hn, show as.reverse ++ .ref b :: rest = (as.reverse ++ [.ref b]) ++ rest by simp, List.drop_append_of_le_length (by simp), List.drop_eq_nil_of_le (by simp), List.nil_append]
  have e4 : pm_na0 mj + 1 ≤ st.length := by
    rw [hst, ← hn]
    simp
  have e5 : (st.take (pm_na0 mj + 1)).reverse = .ref b :: as := by rw [e2]; simp
  rw [pv_call (mj := mj) (args := .ref b :: as) (rest := rest) a]
  simp only [pm_do, pm_ip, e1]
  unfold pm_inv
  rw [e5, e3, if_pos ⟨e4, hs, hl⟩]
end PMX
