/-! ONE STEP of the pure machine is one of the JVM's: all instructions but calls of own methods and returns -/
def pm_Fr (p : Program) (s : State) (args : Array Value) (m' : MethodId) (meth : Method) (c : Code) (m : Nat) : Prop :=
  p.tables.exec = Jvm.exec ∧ c.code = pm_b m ∧ c.maxLocals = pm_ml m ∧ s.vm.findClass (pm_own m) = some m'.cls ∧ (∀ w ∈ lw_g, w.before args s = true) ∧ meth.locks = false ∧ meth.sig.returnType = pm_rt m ∧ ((pm_y m).name = "<init>" → meth.name = "<init>")
def pm_Re (D : va_G) (κ : Nat → ClassId) (α : Nat → Nat) (A : Nat → Prop) (s : State) (h : pm_H) (H : Heap) (locs : List Loc) : Prop := va_P D pm_cl8 (pm_ws κ α h) H ∧ va_D A (pm_ws κ α h) ∧ va_S A s.heap H locs
def pm_six : List Nat := [74, 76, 78, 80, 100, 92, 98]
def pm_stx : List String := ["frost", "thaw", "snow", "bears", "0123456789", "hdw", "<=>"]
def pm_sln : List Nat := [5, 4, 4, 5, 10, 3, 3]
def pm_sby : List (List Int32) := [[102, 114, 111, 115, 116], [116, 104, 97, 119], [115, 110, 111, 119], [98, 101, 97, 114, 115], [48, 49, 50, 51, 52, 53, 54, 55, 56, 57], [104, 100, 119], [60, 61, 62]]
/-- the texts -/
def pm_SF (X : pm_X) (α : Nat → Nat) (A : Nat → Prop) (U : State) (H : Heap) : Prop :=
  (∀ j, j < 7 → vk_R "IceBears$Reader" (pm_six.getD j 0) (pm_stx.getD j "") (α (1000010 + j)) U) ∧ vk_S 7 pm_sln pm_sby (fun i => α (1000010 + i)) (fun i => α (1000030 + i)) A U H ∧
  va_Z "java/lang/String" "COMPACT_STRINGS" "Z" (.int 1) A U H ∧ va_Z "jdk/internal/util/Preconditions" "SIOOBE_FORMATTER" "Ljava/util/function/BiFunction;" (pm_mv α (pm_gs X 3)) A U H
/-- what lies outside of the class's and the reference's own cells, and stays as it is -/
def pm_OF (X : pm_X) (α : Nat → Nat) (A : Nat → Prop) (U : State) (H : Heap) : Prop :=
  (va_X (α 1000000) X.1 X.2.1 U H ∧ α 1000000 < H.size ∧ ¬ A (α 1000000)) ∧
  (va_Z "IceBears" "KIND_ABOVE" "[I" (.ref (α 1000001)) A U H ∧ va_T .int (α 1000001) 7 (fun j => .int (pm_fK j)) A U H) ∧
  (va_Z "IceBears$Acts" "BODIES" "[I" (.ref (α 1000002)) A U H ∧ va_T .int (α 1000002) 21 (fun j => .int (pm_fB j)) A U H) ∧
  pm_SF X α A U H ∧ (va_AO (pm_C 4) U ∧ va_AO (pm_C 3) U) ∧ va_Nw (.fieldLinkNest "IceBears$Acts" 44 "IceBears" "KIND_ABOVE" "[I" "IceBears") U ∧ va_Nw (.methodLinkNest "IceBears$Acts" 47 (pm_y 39) "IceBears") U
theorem pm_OF_ag {X : pm_X} {α α' : Nat → Nat} {A : Nat → Prop} {U : State} {H : Heap} (h : pm_OF X α A U H) (hag : ∀ k, 1000000 ≤ k → α' k = α k) : pm_OF X α' A U H := by
  obtain ⟨⟨a1, a2, a3⟩, ⟨b1, b2⟩, ⟨c1, c2⟩, ⟨d1, d2, d3, d4⟩, ⟨e1', e2'⟩, e3', e4'⟩ := h
  have e0 := hag 1000000 (by omega)
  have e1 := hag 1000001 (by omega)
  have e2 := hag 1000002 (by omega)
  have es : (fun i => α' (1000010 + i)) = (fun i => α (1000010 + i)) := by
    funext i
    exact hag _ (by omega)
  have et : (fun i => α' (1000030 + i)) = (fun i => α (1000030 + i)) := by
    funext i
    exact hag _ (by omega)
  have ef : pm_mv α' (pm_gs X 3) = pm_mv α (pm_gs X 3) := by
    show pm_mv α' (if X.2.2 = true then Value.null else Value.ref 1000060) = pm_mv α (if X.2.2 = true then Value.null else Value.ref 1000060)
    split
    · rfl
    · simp [pm_mv, hag 1000060 (by omega)]
  refine ⟨⟨by rw [e0]; exact a1, by rw [e0]; exact a2, by rw [e0]; exact a3⟩, ⟨by rw [e1]; exact b1, by rw [e1]; exact b2⟩, ⟨by rw [e2]; exact c1, by rw [e2]; exact c2⟩, ⟨fun j hj => by rw [hag _ (by omega)]; exact d1 j hj, by rw [es, et]; exact d2, d3, by rw [ef]; exact d4⟩, ⟨e1', e2'⟩, e3', e4'⟩
/-- from the entry of a frame to one that it calls -/
theorem pm_OF_to {X : pm_X} {α : Nat → Nat} {A B : Nat → Prop} {s U : State} {H : Heap} {locs : List Loc} (h : pm_OF X α A s s.heap) (hS : va_S A s.heap H locs) (hW : s.WarmedH U.vm) (hU : U.heap = H) (hAB : ∀ q, B q → A q) : pm_OF X α B U U.heap := by
  obtain ⟨⟨a1, a2, a3⟩, ⟨b1, b2⟩, ⟨c1, c2⟩, ⟨d1, d2, d3, d4⟩, ⟨e1', e2'⟩, e3', e4'⟩ := h
  rw [hU]
  have hq := hS.2.1
  refine ⟨⟨va_X.moved hW.alike (a1.kept (hq _ a2 a3)), Nat.lt_of_lt_of_le a2 hS.1, fun h => a3 (hAB _ h)⟩, ⟨((b1.kept hq).moved hW.alike).narrow hAB, ((b2.kept hq).moved hW.alike).narrow hAB⟩, ⟨((c1.kept hq).moved hW.alike).narrow hAB, ((c2.kept hq).moved hW.alike).narrow hAB⟩, ⟨fun j hj => (d1 j hj).warm hW, ((d2.kept hq).moved hW.alike).narrow hAB, ((d3.kept hq).moved hW.alike).narrow hAB, ((d4.kept hq).moved hW.alike).narrow hAB⟩, ⟨e1'.moved hW.alike, e2'.moved hW.alike⟩, va_Nw.warmF hW e3', va_Nw.warmM hW e4'⟩
theorem pm_OF_same {X : pm_X} {α : Nat → Nat} {A : Nat → Prop} {u U : State} (h : pm_OF X α A u u.heap) (hv : U.vm = u.vm) (hH : U.heap = u.heap) : pm_OF X α A U U.heap := by
  obtain ⟨⟨a1, a2, a3⟩, ⟨b1, b2⟩, ⟨c1, c2⟩, ⟨d1, d2, d3, d4⟩, ⟨e1', e2'⟩, e3', e4'⟩ := h
  rw [hH]
  have hW : u.vm.Alike U.vm := by rw [hv]; exact Vm.Alike.refl _
  exact ⟨⟨va_X.moved hW a1, a2, a3⟩, ⟨b1.moved hW, b2.moved hW⟩, ⟨c1.moved hW, c2.moved hW⟩, ⟨fun j hj => (d1 j hj).same hv, d2.moved hW, d3.moved hW, d4.moved hW⟩, ⟨e1'.moved hW, e2'.moved hW⟩, va_Nw.same rfl hv.symm e3', va_Nw.same rfl hv.symm e4'⟩
section PMS
variable {X : pm_X} {p : Program} {l : Launch} {e : Env} {R : Room} {s : State} {m' : MethodId} {args : Array Value} {below : List Frame} {meth : Method} {c : Code} {D : va_G} {κ : Nat → ClassId} {A : Nat → Prop} {Q : State → Prop} {m : Nat}
/-- what comes behind a step -/
def pm_G (p : Program) (l : Launch) (e : Env) (R : Room) (s : State) (m' : MethodId) (args : Array Value) (below : List Frame) (meth : Method) (c : Code) (D : va_G) (κ : Nat → ClassId) (A : Nat → Prop) (Q : State → Prop) (m : Nat) (α : Nat → Nat) (cells slots : Nat) (h : pm_H) (s' : pm_St) : Prop :=
  ∀ (α' : Nat → Nat) (arr' : Array Slot) (H' : Heap) (locs' : List Loc) (cells' slots' : Nat), pm_ext h.1.length s'.2.2.2.1.length α α' → pm_LH α' arr' (pm_ml m) s'.2.1 → pm_Re D κ α' A s s'.2.2.2 H' locs' → cells' + h.1.length = cells + s'.2.2.2.1.length → slots' + pm_sz h.1 = slots + pm_sz s'.2.2.2.1 → W p l e R s m' args below meth c H' locs' cells' slots' Q (F0 m' s'.1 arr' (s'.2.2.1.map (pm_mv α')))
variable {α : Nat → Nat} {arr : Array Slot} {H : Heap} {locs : List Loc} {cells slots pc pc' : Nat} {h h' : pm_H} {ls ls' : List (Option Value)} {st st' : List Value} {s' : pm_St}
theorem pm_G_same (G : pm_G p l e R s m' args below meth c D κ A Q m α cells slots h (pc', ls', st', h)) (L : pm_LH α arr (pm_ml m) ls') (Rr : pm_Re D κ α A s h H locs) : W p l e R s m' args below meth c H locs cells slots Q (F0 m' pc' arr (st'.map (pm_mv α))) :=
  G α arr H locs cells slots ⟨fun _ _ => rfl, fun _ => rfl⟩ L Rr rfl rfl
theorem pm_G_heap (G : pm_G p l e R s m' args below meth c D κ A Q m α cells slots h (pc', ls', st', h')) (h1 : h'.1.length = h.1.length) (h2 : pm_sz h'.1 = pm_sz h.1) (L : pm_LH α arr (pm_ml m) ls') (Rr : pm_Re D κ α A s h' H locs) : W p l e R s m' args below meth c H locs cells slots Q (F0 m' pc' arr (st'.map (pm_mv α))) :=
  G α arr H locs cells slots ⟨fun _ _ => rfl, fun _ => rfl⟩ L Rr (by show cells + h.1.length = cells + h'.1.length; rw [h1]) (by show slots + pm_sz h.1 = slots + pm_sz h'.1; rw [h2])
theorem pm_n_inv {z : List (Option Value)} (hs : pm_n pc z st h = some (.inl s')) : s' = (pc, z, st, h) := by
  unfold pm_n at hs
  cases hs
  rfl
theorem pm_g_inv {off : Int} (hs : pm_g pc off ls st h = some (.inl s')) : 0 ≤ (pc : Int) + off ∧ s' = (pm_j pc off, ls, st, h) := by
  unfold pm_g at hs
  split at hs
  · rename_i q
    exact ⟨q, pm_n_inv hs⟩
  · cases hs
theorem pm_j_eq {off : Int} (h0 : 0 ≤ (pc : Int) + off) : (pc : Int) + off = ((pm_j pc off : Nat) : Int) := by
  unfold pm_j
  omega
theorem pm_ld_inv {k : Nat} (hs : pm_ld ls k pc st h = some (.inl s')) : ∃ x, ls[k]? = some (some (.int x)) ∧ s' = (pc, ls, .int x :: st, h) := by
  unfold pm_ld at hs
  split at hs
  · rename_i x hx
    exact ⟨x, hx, pm_n_inv hs⟩
  · cases hs
theorem pm_ldL_inv {k : Nat} (hs : pm_ldL ls k pc st h = some (.inl s')) : ∃ x, ls[k]? = some (some (.long x)) ∧ s' = (pc, ls, .long x :: st, h) := by
  unfold pm_ldL at hs
  split at hs
  · rename_i x hx
    exact ⟨x, hx, pm_n_inv hs⟩
  · cases hs
theorem pm_ldA_inv {k : Nat} (hs : pm_ldA ls k pc st h = some (.inl s')) : ∃ x, ls[k]? = some (some (.ref x)) ∧ s' = (pc, ls, .ref x :: st, h) := by
  unfold pm_ldA at hs
  split at hs
  · rename_i x hx
    exact ⟨x, hx, pm_n_inv hs⟩
  · cases hs
theorem pm_st_inv {k : Nat} (hs : pm_st ls k pc st h = some (.inl s')) : ∃ x r, st = .int x :: r ∧ k < ls.length ∧ s' = (pc, pm_sto ls k (.int x), r, h) := by
  unfold pm_st at hs
  split at hs
  · rename_i x r
    split at hs
    · rename_i hk
      exact ⟨x, r, rfl, hk, pm_n_inv hs⟩
    · cases hs
  · cases hs
theorem pm_stA_inv {k : Nat} (hs : pm_stA ls k pc st h = some (.inl s')) : ∃ x r, st = .ref x :: r ∧ k < ls.length ∧ s' = (pc, pm_sto ls k (.ref x), r, h) := by
  unfold pm_stA at hs
  split at hs
  · rename_i x r
    split at hs
    · rename_i hk
      exact ⟨x, r, rfl, hk, pm_n_inv hs⟩
    · cases hs
  · cases hs
theorem pm_stJ_inv {k : Nat} (hs : pm_stJ ls k pc st h = some (.inl s')) : ∃ x r, st = .long x :: r ∧ k + 1 < ls.length ∧ s' = (pc, pm_stoL ls k (.long x), r, h) := by
  unfold pm_stJ at hs
  split at hs
  · rename_i x r
    split at hs
    · rename_i hk
      exact ⟨x, r, rfl, hk, pm_n_inv hs⟩
    · cases hs
  · cases hs
theorem pm_i1_inv {f : Int32 → Value} (hs : pm_i1 f pc ls st h = some (.inl s')) : ∃ x r, st = .int x :: r ∧ s' = (pc + 1, ls, f x :: r, h) := by
  unfold pm_i1 at hs
  split at hs
  · exact ⟨_, _, rfl, pm_n_inv hs⟩
  · cases hs
theorem pm_i2_inv {f : Int32 → Int32 → Int32} (hs : pm_i2 f pc ls st h = some (.inl s')) : ∃ x y r, st = .int y :: .int x :: r ∧ s' = (pc + 1, ls, .int (f x y) :: r, h) := by
  unfold pm_i2 at hs
  split at hs
  · exact ⟨_, _, _, rfl, pm_n_inv hs⟩
  · cases hs
theorem pm_d2_inv {f : Int32 → Int32 → Int32} (hs : pm_d2 f pc ls st h = some (.inl s')) : ∃ x y r, st = .int y :: .int x :: r ∧ ¬ y = 0 ∧ s' = (pc + 1, ls, .int (f x y) :: r, h) := by
  unfold pm_d2 at hs
  split at hs
  · split at hs
    · cases hs
    · rename_i hy
      exact ⟨_, _, _, rfl, hy, pm_n_inv hs⟩
  · cases hs
theorem pm_l2_inv {f : Int64 → Int64 → Value} (hs : pm_l2 f pc ls st h = some (.inl s')) : ∃ x y r, st = .long y :: .long x :: r ∧ s' = (pc + 1, ls, f x y :: r, h) := by
  unfold pm_l2 at hs
  split at hs
  · exact ⟨_, _, _, rfl, pm_n_inv hs⟩
  · cases hs
theorem pm_e2_inv {f : Int64 → Int64 → Int64} (hs : pm_e2 f pc ls st h = some (.inl s')) : ∃ x y r, st = .long y :: .long x :: r ∧ ¬ y = 0 ∧ s' = (pc + 1, ls, .long (f x y) :: r, h) := by
  unfold pm_e2 at hs
  split at hs
  · split at hs
    · cases hs
    · rename_i hy
      exact ⟨_, _, _, rfl, hy, pm_n_inv hs⟩
  · cases hs
theorem pm_if {b : Prop} (hb : Decidable b) {x y : Option pm_Q} (hs : @ite _ b hb x y = some (.inl s')) : (b → x = some (.inl s')) ∧ (¬ b → y = some (.inl s')) :=
  ⟨fun q => by rw [if_pos q] at hs; exact hs, fun q => by rw [if_neg q] at hs; exact hs⟩
/-- branches on one number -/
theorem pm_cz_sim {cnd : ClassFile.Cond} {off : Int} (F : pm_Fr p s args m' meth c m) (hd : decode (pm_b m) pc = .ok (.ifCond cnd off, 3)) (L : pm_LH α arr (pm_ml m) ls) (Rr : pm_Re D κ α A s h H locs) (hs : pm_cz cnd off pc ls st h = some (.inl s')) (G : pm_G p l e R s m' args below meth c D κ A Q m α cells slots h s') : W p l e R s m' args below meth c H locs cells slots Q (F0 m' pc arr (st.map (pm_mv α))) := by
  obtain ⟨hx, hb, -⟩ := F
  unfold pm_cz at hs
  split at hs
  · rename_i x r
    split at hs
    · rename_i h0
      have go : ∀ (pc' : Nat), pm_n pc' ls r h = some (.inl s') → W p l e R s m' args below meth c H locs cells slots Q (F0 m' pc' arr (r.map (pm_mv α))) := by
        intro pc' hq
        obtain rfl := pm_n_inv hq
        exact pm_G_same G L Rr
      cases cnd
      · exact lv_if_eq hx hb hd (pm_j_eq h0) (fun q => go _ ((pm_if _ hs).1 q)) (fun q => go _ ((pm_if _ hs).2 q))
      · exact lv_if_ne hx hb hd (pm_j_eq h0) (fun q => go _ ((pm_if _ hs).1 q)) (fun q => go _ ((pm_if _ hs).2 (fun z => z q)))
      · exact lv_if_lt hx hb hd (pm_j_eq h0) (fun q => go _ ((pm_if _ hs).1 q)) (fun q => go _ ((pm_if _ hs).2 q))
      · exact lv_if_ge hx hb hd (pm_j_eq h0) (fun q => go _ ((pm_if _ hs).1 q)) (fun q => go _ ((pm_if _ hs).2 q))
      · exact lv_if_gt hx hb hd (pm_j_eq h0) (fun q => go _ ((pm_if _ hs).1 q)) (fun q => go _ ((pm_if _ hs).2 q))
      · exact lv_if_le hx hb hd (pm_j_eq h0) (fun q => go _ ((pm_if _ hs).1 q)) (fun q => go _ ((pm_if _ hs).2 q))
    · cases hs
  · cases hs
theorem pm_cm_sim {cnd : ClassFile.Cond} {off : Int} (F : pm_Fr p s args m' meth c m) (hd : decode (pm_b m) pc = .ok (.if_icmp cnd off, 3)) (L : pm_LH α arr (pm_ml m) ls) (Rr : pm_Re D κ α A s h H locs) (hs : pm_cm cnd off pc ls st h = some (.inl s')) (G : pm_G p l e R s m' args below meth c D κ A Q m α cells slots h s') : W p l e R s m' args below meth c H locs cells slots Q (F0 m' pc arr (st.map (pm_mv α))) := by
  obtain ⟨hx, hb, -⟩ := F
  unfold pm_cm at hs
  split at hs
  · rename_i y x r
    split at hs
    · rename_i h0
      have go : ∀ (pc' : Nat), pm_n pc' ls r h = some (.inl s') → W p l e R s m' args below meth c H locs cells slots Q (F0 m' pc' arr (r.map (pm_mv α))) := by
        intro pc' hq
        obtain rfl := pm_n_inv hq
        exact pm_G_same G L Rr
      cases cnd
      · exact lv_icmp_eq hx hb hd (pm_j_eq h0) (fun q => go _ ((pm_if _ hs).1 q)) (fun q => go _ ((pm_if _ hs).2 q))
      · exact lv_icmp_ne hx hb hd (pm_j_eq h0) (fun q => go _ ((pm_if _ hs).1 q)) (fun q => go _ ((pm_if _ hs).2 (fun z => z q)))
      · exact lv_icmp_lt hx hb hd (pm_j_eq h0) (fun q => go _ ((pm_if _ hs).1 q)) (fun q => go _ ((pm_if _ hs).2 q))
      · exact lv_icmp_ge hx hb hd (pm_j_eq h0) (fun q => go _ ((pm_if _ hs).1 q)) (fun q => go _ ((pm_if _ hs).2 q))
      · exact lv_icmp_gt hx hb hd (pm_j_eq h0) (fun q => go _ ((pm_if _ hs).1 q)) (fun q => go _ ((pm_if _ hs).2 q))
      · exact lv_icmp_le hx hb hd (pm_j_eq h0) (fun q => go _ ((pm_if _ hs).1 q)) (fun q => go _ ((pm_if _ hs).2 q))
    · cases hs
  · cases hs
theorem pm_ts_sim {dd lo hi : Int} {offs : Array Int} {len : Nat} (F : pm_Fr p s args m' meth c m) (hd : decode (pm_b m) pc = .ok (.tableswitch dd lo hi offs, len)) (L : pm_LH α arr (pm_ml m) ls) (Rr : pm_Re D κ α A s h H locs) (hs : pm_ts dd lo hi offs pc ls st h = some (.inl s')) (G : pm_G p l e R s m' args below meth c D κ A Q m α cells slots h s') : W p l e R s m' args below meth c H locs cells slots Q (F0 m' pc arr (st.map (pm_mv α))) := by
  obtain ⟨hx, hb, -⟩ := F
  unfold pm_ts at hs
  split at hs
  · rename_i x r
    split at hs
    · rename_i ho
      obtain ⟨h0, rfl⟩ := pm_g_inv hs
      exact lv_tableOut hx hb hd ho (pm_j_eq h0) (pm_G_same G L Rr)
    · rename_i ho
      split at hs
      · rename_i o hq
        obtain ⟨h0, rfl⟩ := pm_g_inv hs
        exact lv_tableIn hx hb hd (fun z => ho (Or.inl z)) (fun z => ho (Or.inr z)) hq (pm_j_eq h0) (pm_G_same G L Rr)
      · cases hs
  · cases hs
theorem pm_lk_sim {dd : Int} {ps : Array (Int × Int)} {len : Nat} (F : pm_Fr p s args m' meth c m) (hd : decode (pm_b m) pc = .ok (.lookupswitch dd ps, len)) (hk : (ps.toList.zip (ps.toList.drop 1)).all (fun (a, next) => a.1 < next.1) = true) (L : pm_LH α arr (pm_ml m) ls) (Rr : pm_Re D κ α A s h H locs) (hs : pm_lk dd ps pc ls st h = some (.inl s')) (G : pm_G p l e R s m' args below meth c D κ A Q m α cells slots h s') : W p l e R s m' args below meth c H locs cells slots Q (F0 m' pc arr (st.map (pm_mv α))) := by
  obtain ⟨hx, hb, -⟩ := F
  unfold pm_lk at hs
  split at hs
  · rename_i x r
    obtain ⟨h0, rfl⟩ := pm_g_inv hs
    exact lv_lookup hx hb hd hk rfl (pm_j_eq h0) (pm_G_same G L Rr)
  · cases hs
theorem pm_st_sim {k : Nat} (F : pm_Fr p s args m' meth c m) (hd : decode (pm_b m) pc = .ok (.istore k, 2)) (L : pm_LH α arr (pm_ml m) ls) (Rr : pm_Re D κ α A s h H locs) (hs : pm_st ls k (pc + 2) st h = some (.inl s')) (G : pm_G p l e R s m' args below meth c D κ A Q m α cells slots h s') : W p l e R s m' args below meth c H locs cells slots Q (F0 m' pc arr (st.map (pm_mv α))) := by
  obtain ⟨hx, hb, -⟩ := F
  obtain ⟨x, r, rfl, hk, rfl⟩ := pm_st_inv hs
  obtain ⟨h0, lv, hl, hm⟩ := L
  exact lv_istore hx hb hd hl (h0 ▸ hk) rfl (fun ls' hl' => pm_G_same G (pm_sto_has (w := .int x) h0 hm hl') Rr)
theorem pm_stn_sim {k : Fin 4} (F : pm_Fr p s args m' meth c m) (hd : decode (pm_b m) pc = .ok (.istore_n k, 1)) (L : pm_LH α arr (pm_ml m) ls) (Rr : pm_Re D κ α A s h H locs) (hs : pm_st ls k (pc + 1) st h = some (.inl s')) (G : pm_G p l e R s m' args below meth c D κ A Q m α cells slots h s') : W p l e R s m' args below meth c H locs cells slots Q (F0 m' pc arr (st.map (pm_mv α))) := by
  obtain ⟨hx, hb, -⟩ := F
  obtain ⟨x, r, rfl, hk, rfl⟩ := pm_st_inv hs
  obtain ⟨h0, lv, hl, hm⟩ := L
  exact lv_istore_n hx hb hd rfl hl (h0 ▸ hk) rfl (fun ls' hl' => pm_G_same G (pm_sto_has (w := .int x) h0 hm hl') Rr)
theorem pm_stA_sim {k : Nat} (F : pm_Fr p s args m' meth c m) (hd : decode (pm_b m) pc = .ok (.astore k, 2)) (L : pm_LH α arr (pm_ml m) ls) (Rr : pm_Re D κ α A s h H locs) (hs : pm_stA ls k (pc + 2) st h = some (.inl s')) (G : pm_G p l e R s m' args below meth c D κ A Q m α cells slots h s') : W p l e R s m' args below meth c H locs cells slots Q (F0 m' pc arr (st.map (pm_mv α))) := by
  obtain ⟨hx, hb, -⟩ := F
  obtain ⟨x, r, rfl, hk, rfl⟩ := pm_stA_inv hs
  obtain ⟨h0, lv, hl, hm⟩ := L
  exact lv_astore hx hb hd hl (h0 ▸ hk) rfl (fun ls' hl' => pm_G_same G (pm_sto_has (w := .ref x) h0 hm hl') Rr)
theorem pm_stAn_sim {k : Fin 4} (F : pm_Fr p s args m' meth c m) (hd : decode (pm_b m) pc = .ok (.astore_n k, 1)) (L : pm_LH α arr (pm_ml m) ls) (Rr : pm_Re D κ α A s h H locs) (hs : pm_stA ls k (pc + 1) st h = some (.inl s')) (G : pm_G p l e R s m' args below meth c D κ A Q m α cells slots h s') : W p l e R s m' args below meth c H locs cells slots Q (F0 m' pc arr (st.map (pm_mv α))) := by
  obtain ⟨hx, hb, -⟩ := F
  obtain ⟨x, r, rfl, hk, rfl⟩ := pm_stA_inv hs
  obtain ⟨h0, lv, hl, hm⟩ := L
  exact lv_astore_n hx hb hd rfl hl (h0 ▸ hk) rfl (fun ls' hl' => pm_G_same G (pm_sto_has (w := .ref x) h0 hm hl') Rr)
theorem pm_stJ_sim {k : Nat} (F : pm_Fr p s args m' meth c m) (hd : decode (pm_b m) pc = .ok (.lstore k, 2)) (L : pm_LH α arr (pm_ml m) ls) (Rr : pm_Re D κ α A s h H locs) (hs : pm_stJ ls k (pc + 2) st h = some (.inl s')) (G : pm_G p l e R s m' args below meth c D κ A Q m α cells slots h s') : W p l e R s m' args below meth c H locs cells slots Q (F0 m' pc arr (st.map (pm_mv α))) := by
  obtain ⟨hx, hb, -⟩ := F
  obtain ⟨x, r, rfl, hk, rfl⟩ := pm_stJ_inv hs
  obtain ⟨h0, lv, hl, hm⟩ := L
  exact lv_lstore hx hb hd hl (h0 ▸ hk) rfl (fun ls' hl' => pm_G_same G (pm_stoL_has (w := .long x) h0 hm hl') Rr)
theorem pm_stJn_sim {k : Fin 4} (F : pm_Fr p s args m' meth c m) (hd : decode (pm_b m) pc = .ok (.lstore_n k, 1)) (L : pm_LH α arr (pm_ml m) ls) (Rr : pm_Re D κ α A s h H locs) (hs : pm_stJ ls k (pc + 1) st h = some (.inl s')) (G : pm_G p l e R s m' args below meth c D κ A Q m α cells slots h s') : W p l e R s m' args below meth c H locs cells slots Q (F0 m' pc arr (st.map (pm_mv α))) := by
  obtain ⟨hx, hb, -⟩ := F
  obtain ⟨x, r, rfl, hk, rfl⟩ := pm_stJ_inv hs
  obtain ⟨h0, lv, hl, hm⟩ := L
  exact lv_lstore_n hx hb hd rfl hl (h0 ▸ hk) rfl (fun ls' hl' => pm_G_same G (pm_stoL_has (w := .long x) h0 hm hl') Rr)
theorem pm_iinc_sim {k : Nat} {n : Int} {x : Int32} (F : pm_Fr p s args m' meth c m) (hd : decode (pm_b m) pc = .ok (.iinc k n, 3)) (L : pm_LH α arr (pm_ml m) ls) (Rr : pm_Re D κ α A s h H locs) (hxk : ls[k]? = some (some (.int x))) (hs : pm_n (pc + 3) (pm_sto ls k (.int (x + Int32.ofInt n))) st h = some (.inl s')) (G : pm_G p l e R s m' args below meth c D κ A Q m α cells slots h s') : W p l e R s m' args below meth c H locs cells slots Q (F0 m' pc arr (st.map (pm_mv α))) := by
  obtain ⟨hx, hb, -⟩ := F
  obtain rfl := pm_n_inv hs
  obtain ⟨h0, lv, hl, hm⟩ := L
  obtain ⟨j, hj⟩ := List.getElem?_of_mem (hm k _ hxk)
  have hk : k < pm_ml m := by
    have := (List.getElem?_eq_some_iff.mp hxk).1
    omega
  exact lv_iinc hx hb hd hl hj rfl hk rfl (fun ls' hl' => pm_G_same G (pm_sto_has (w := .int (x + Int32.ofInt n)) h0 hm hl') Rr)
end PMS
