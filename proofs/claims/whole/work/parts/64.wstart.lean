/-! the law's entry on the JVM -/
section P64
variable {s : State} {b L : Nat} {xs : Nat → Int32}
/-- where things that stand outside lie -/
def al_0 (b tK tB tF : Nat) (aK aV : Nat → Nat) (a : Nat) : Nat :=
  if a = 1000000 then b else if a = 1000001 then tK else if a = 1000002 then tB else if a = 1000060 then tF else if a < 1000020 then aK (a - 1000010) else aV (a - 1000030)
theorem vk_S_cg {N : Nat} {len : List Nat} {byt : List (List Int32)} {adK adV adK' adV' : Nat → Nat} {A : Nat → Prop} {U : State} {H : Heap} (h : vk_S N len byt adK adV A U H) (hK : ∀ i, i < N → adK' i = adK i) (hV : ∀ i, i < N → adV' i = adV i) : vk_S N len byt adK' adV' A U H :=
  ⟨fun i hi => by rw [hK i hi, hV i hi]; exact h.1 i hi, fun i j hi hj e => h.2 i j hi hj (by rw [hK i hi, hK j hj] at e; exact e)⟩
abbrev fl_0 : List Cond := flatC (Jvm.Cond.and given_1 narrow_1)
abbrev tm_S (i : Nat) : Term := Term.string "IceBears$Reader" (pm_six.getD i 0)
abbrev tm_K : Term := Term.static "IceBears" "KIND_ABOVE" "[I"
abbrev tm_B : Term := Term.static "IceBears$Acts" "BODIES" "[I"
theorem fl_K : ∀ j, j < 7 → Cond.eq (.elem tm_K (.int (Int32.ofNat j))) (.int (pm_fK j)) ∈ fl_0 := by decide +kernel
theorem fl_B : ∀ j, j < 21 → Cond.eq (.elem tm_B (.int (Int32.ofNat j))) (.int (pm_fB j)) ∈ fl_0 := by decide +kernel
theorem fl_ex : ∀ i, i < 7 → Cond.exactly (tm_S i) "java/lang/String" ∈ fl_0 := by decide +kernel
theorem fl_co : ∀ i, i < 7 → Cond.eq (.field (tm_S i) "java/lang/String" "coder" "B") (.int 0) ∈ fl_0 := by decide +kernel
theorem fl_ar : ∀ i, i < 7 → Cond.arrayOf (.field (tm_S i) "java/lang/String" "value" "[B") .byte ∈ fl_0 := by decide +kernel
theorem fl_le : ∀ i, i < 7 → Cond.eq (.length (.field (tm_S i) "java/lang/String" "value" "[B")) (.int (Int32.ofNat (pm_sln.getD i 0))) ∈ fl_0 := by decide +kernel
theorem fl_el : ∀ i, i < 7 → ∀ j, j < pm_sln.getD i 0 → Cond.eq (.elem (.field (tm_S i) "java/lang/String" "value" "[B") (.int (Int32.ofNat j))) (.int ((pm_sby.getD i []).getD j 0)) ∈ fl_0 := by decide +kernel
theorem fl_ne : ∀ i, i < 7 → ∀ j, j < 7 → i ≠ j → Cond.not (Cond.eq (tm_S i) (tm_S j)) ∈ fl_0 ∨ Cond.not (Cond.eq (tm_S j) (tm_S i)) ∈ fl_0 := by decide +kernel
theorem fl_ln : ∀ i, i < 7 → pm_sln.getD i 0 < 2 ^ 31 := by decide +kernel
theorem sr_w : ∀ j, j < 7 → Cond.stringRef "IceBears$Reader" (pm_six.getD j 0) (pm_stx.getD j "") ∈ lw_tbl := by
  intro j hj
  match j, hj with
  | 0, _ => exact pm_has_mem (i := 411) (by decide +kernel)
  | 1, _ => exact pm_has_mem (i := 412) (by decide +kernel)
  | 2, _ => exact pm_has_mem (i := 413) (by decide +kernel)
  | 3, _ => exact pm_has_mem (i := 414) (by decide +kernel)
  | 4, _ => exact pm_has_mem (i := 475) (by decide +kernel)
  | 5, _ => exact pm_has_mem (i := 551) (by decide +kernel)
  | 6, _ => exact pm_has_mem (i := 552) (by decide +kernel)
/-- the classes -/
theorem st_cl (hts : ∀ w ∈ lw_tbl, w.before #[Value.ref b] s = true) : ∃ D : va_G, ∀ (c : Nat) (q : vw_C), pm_cl8[c]? = some q → u_Kn s q.1 q.2.1 q.2.2 (D.1 c) (D.2 c) := by
  have hg : ∀ w ∈ lw_g, w.before #[Value.ref b] s = true := fun w hw => hts w (List.mem_filter.mp hw).1
  have ins : ∀ ci, ci < 8 → (Cond.instantiable (pm_C ci) (pm_nf ci)).before #[Value.ref b] s = true := by
    intro ci hc
    match ci, hc with
    | 0, _ => exact hts _ (pm_has_mem (i := 101) (by decide +kernel))
    | 1, _ => exact hts _ (pm_has_mem (i := 109) (by decide +kernel))
    | 2, _ => exact hts _ (pm_has_mem (i := 115) (by decide +kernel))
    | 3, _ => exact hts _ (pm_has_mem (i := 184) (by decide +kernel))
    | 4, _ => exact hts _ (pm_has_mem (i := 238) (by decide +kernel))
    | 5, _ => exact hts _ (pm_has_mem (i := 213) (by decide +kernel))
    | 6, _ => exact hts _ (pm_has_mem (i := 363) (by decide +kernel))
    | 7, _ => exact hts _ (pm_has_mem (i := 847) (by decide +kernel))
  have h : ∀ ci, ∃ q : ClassId × (Nat → Nat), ci < 8 → u_Kn s (pm_C ci) (pm_T ci) (pm_nf ci) q.1 q.2 := by
    intro ci
    by_cases hc : ci < 8
    · obtain ⟨cC, iS, hK⟩ := u_known (C := pm_C ci) (T := pm_T ci) (N := pm_nf ci) (n := pm_nf ci) hg (pm_in ci hc) (ins ci hc)
      exact ⟨(cC, iS), fun _ => hK⟩
    · exact ⟨(0, fun _ => 0), fun z => absurd z hc⟩
  obtain ⟨f, hf⟩ := Classical.axiomOfChoice h
  refine ⟨(fun c => (f c).1, fun c => (f c).2), fun c q hq => ?_⟩
  have hc : c < 8 := (List.getElem?_eq_some_iff.mp hq).1
  rw [pm_cl8_at c hc] at hq
  cases hq
  exact hf c hc
theorem st_ty (hts : ∀ w ∈ lw_tbl, w.before #[Value.ref b] s = true) : ∃ κ : Nat → ClassId, ∀ (k : Nat) (q : ClassId × FieldType), (pm_tys κ)[k]? = some q → ArrOfT s q.1 q.2 ∧ va_RA s q.1 q.2 := by
  obtain ⟨c1, k1, p1, a1, b1, d1⟩ := Cond.arrayClass_spec (hts (.arrayClass .int) (pm_has_mem (i := 133) (by decide +kernel)))
  obtain ⟨c2, k2, p2, a2, b2, d2⟩ := Cond.arrayClass_spec (hts (.arrayClass .byte) (pm_has_mem (i := 208) (by decide +kernel)))
  obtain ⟨c3, k3, p3, a3, b3, d3⟩ := Cond.arrayClass_spec (hts (.arrayClass .boolean) (pm_has_mem (i := 1030) (by decide +kernel)))
  obtain ⟨c4, k4, p4, a4, b4, d4⟩ := Cond.arrayClass_spec (hts (.arrayClass .long) (pm_has_mem (i := 256) (by decide +kernel)))
  obtain ⟨p5, c5, k5, f5, _, b5, d5, a5⟩ := Cond.arrayOver_spec (hts (.arrayOver (.object (pm_C 4))) (pm_has_mem (i := 211) (by decide +kernel)))
  obtain ⟨p6, c6, k6, f6, _, b6, d6, a6⟩ := Cond.arrayOver_spec (hts (.arrayOver (.object (pm_C 3))) (pm_has_mem (i := 209) (by decide +kernel)))
  refine ⟨fun i => if i = 1 then c1 else if i = 2 then c2 else if i = 3 then c3 else if i = 4 then c4 else if i = 5 then c5 else c6, fun k q hq => ?_⟩
  match k, hq with
  | 0, hq => cases hq; exact ⟨fun n z => ⟨fun k h => (by cases h), k1, b1, p1, d1⟩, a1⟩
  | 1, hq => cases hq; exact ⟨fun n z => ⟨fun k h => (by cases h), k2, b2, p2, d2⟩, a2⟩
  | 2, hq => cases hq; exact ⟨fun n z => ⟨fun k h => (by cases h), k3, b3, p3, d3⟩, a3⟩
  | 3, hq => cases hq; exact ⟨fun n z => ⟨fun k h => (by cases h), k4, b4, p4, d4⟩, a4⟩
  | 4, hq => cases hq; exact ⟨fun n z => ⟨fun k h => (by cases h), k5, b5, p5, d5⟩, k5, p5, b5, d5, f5, a5⟩
  | 5, hq => cases hq; exact ⟨fun n z => ⟨fun k h => (by cases h), k6, b6, p6, d6⟩, k6, p6, b6, d6, f6, a6⟩
  | k + 6, hq => simp [pm_tys] at hq
/-- what stands outside -/
theorem st_of (hts : ∀ w ∈ lw_tbl, w.before #[Value.ref b] s = true) (hX : va_X b L xs s s.heap) (hbl : b < s.heap.size) (hgv : (Jvm.Cond.and given_1 narrow_1).before #[Value.ref b] s = true) : ∃ (X : pm_X) (α : Nat → Nat), X.1 = L ∧ α 1000000 = b ∧ pm_OF X α (fun q => s.heap.size ≤ q) s s.heap := by
  have flat : ∀ w ∈ fl_0, w.before #[Value.ref b] s = true := flat_of_before _ hgv
  have hA : ∀ a : Nat, a < s.heap.size → ¬ s.heap.size ≤ a := fun a h => Nat.not_le.mpr h
  obtain ⟨tK, eK, hK⟩ := va_Tof (tm := tm_K) (ty := .int) (N := 7) (f := fun j => .int (pm_fK j)) (A := fun q => s.heap.size ≤ q) (by decide) (flat _ (by decide +kernel)) (va_eqt (flat _ (by decide +kernel))) (fun j hj => va_eqt (flat _ (fl_K j hj))) hA
  obtain ⟨tB, eB, hB⟩ := va_Tof (tm := tm_B) (ty := .int) (N := 21) (f := fun j => .int (pm_fB j)) (A := fun q => s.heap.size ≤ q) (by decide) (flat _ (by decide +kernel)) (va_eqt (flat _ (by decide +kernel))) (fun j hj => va_eqt (flat _ (fl_B j hj))) hA
  obtain ⟨aK, aV, hS, eS⟩ := vk_Sof (N := 7) (tm := tm_S) (len := pm_sln) (byt := pm_sby) (A := fun q => s.heap.size ≤ q) fl_ln (fun i hi => flat _ (fl_ex i hi)) (fun i hi => flat _ (fl_co i hi)) (fun i hi => flat _ (fl_ar i hi)) (fun i hi => flat _ (fl_le i hi)) (fun i hi j hj => flat _ (fl_el i hi j hj)) (fun i j hi hj hne => (fl_ne i hi j hj hne).imp (flat _) (flat _)) hA
  have zq := va_Zqof (C := "jdk/internal/util/Preconditions") (n := "SIOOBE_FORMATTER") (d := "Ljava/util/function/BiFunction;") (A := fun q => s.heap.size ≤ q) (hts _ (pm_has_mem (i := 444) (by decide +kernel))) (hts _ (pm_has_mem (i := 96) (by decide +kernel))) (flat _ (by decide +kernel)) hA
  obtain ⟨nul, tF, hF⟩ : ∃ (nul : Bool) (tF : Nat), va_Z "jdk/internal/util/Preconditions" "SIOOBE_FORMATTER" "Ljava/util/function/BiFunction;" (if nul = true then .null else .ref tF) (fun q => s.heap.size ≤ q) s s.heap := by
    rcases zq with h | ⟨t, h⟩
    · exact ⟨true, 0, h⟩
    · exact ⟨false, t, h⟩
  have i0 : al_0 b tK tB tF aK aV 1000000 = b := rfl
  have iK : al_0 b tK tB tF aK aV 1000001 = tK := rfl
  have iB : al_0 b tK tB tF aK aV 1000002 = tB := rfl
  have iF : al_0 b tK tB tF aK aV 1000060 = tF := rfl
  have iS : ∀ i, i < 7 → al_0 b tK tB tF aK aV (1000010 + i) = aK i := by
    intro i hi
    unfold al_0
    rw [if_neg (by omega), if_neg (by omega), if_neg (by omega), if_neg (by omega), if_pos (by omega), Nat.add_sub_cancel_left]
  have iV : ∀ i, i < 7 → al_0 b tK tB tF aK aV (1000030 + i) = aV i := by
    intro i hi
    unfold al_0
    rw [if_neg (by omega), if_neg (by omega), if_neg (by omega), if_neg (by omega), if_neg (by omega), Nat.add_sub_cancel_left]
  generalize al_0 b tK tB tF aK aV = α at i0 iK iB iF iS iV
  refine ⟨(L, xs, nul), α, rfl, i0, ⟨?_, ?_, ?_⟩, ⟨?_, ?_⟩, ⟨?_, ?_⟩, ⟨fun j hj => ?_, ?_, ?_, ?_⟩, ⟨?_, ?_⟩, ?_, ?_⟩
  · rw [i0]; exact hX
  · rw [i0]; exact hbl
  · rw [i0]; exact hA b hbl
  · rw [iK]; exact va_Zof (hts _ (pm_has_mem (i := 788) (by decide +kernel))) (hts _ (pm_has_mem (i := 85) (by decide +kernel))) eK hA
  · rw [iK]; exact hK
  · rw [iB]; exact va_Zof (hts _ (pm_has_mem (i := 786) (by decide +kernel))) (hts _ (pm_has_mem (i := 89) (by decide +kernel))) eB hA
  · rw [iB]; exact hB
  · rw [iS j hj]; exact vk_R.of (hts _ (sr_w j hj)) (eS j hj)
  · exact vk_S_cg hS iS iV
  · exact va_Zof (hts _ (pm_has_mem (i := 428) (by decide +kernel))) (hts _ (pm_has_mem (i := 94) (by decide +kernel))) (va_eqt (flat _ (by decide +kernel))) hA
  · have e : pm_mv α (pm_gs (L, xs, nul) 3) = (if nul = true then .null else .ref tF) := by
      show pm_mv α (if nul = true then Value.null else Value.ref 1000060) = _
      cases nul with
      | true => rfl
      | false =>
        show Value.ref (α 1000060) = Value.ref tF
        rw [iF]
    rw [e]
    exact hF
  · exact va_AO.of (hts (.arrayOver (.object (pm_C 4))) (pm_has_mem (i := 211) (by decide +kernel)))
  · exact va_AO.of (hts (.arrayOver (.object (pm_C 3))) (pm_has_mem (i := 209) (by decide +kernel)))
  · exact va_Nw.of rfl (hts _ (pm_has_mem (i := 787) (by decide +kernel)))
  · exact va_Nw.of rfl (hts _ (pm_has_mem (i := 784) (by decide +kernel)))
theorem sz_g : ∀ (g : List pm_S), (∀ c ∈ g, c.1 = 0 ∧ c.2.1 = 6) → pm_sz g = g.length * pm_nf 6 := by
  intro g
  induction g with
  | nil => intro _; exact (Nat.zero_mul _).symm
  | cons c g ih =>
    intro h
    obtain ⟨h1, h2⟩ := h c List.mem_cons_self
    have h3 := ih (fun c hc => h c (List.mem_cons_of_mem _ hc))
    obtain ⟨t, k, rs⟩ := c
    simp only at h1 h2
    subst h1 h2
    show pm_nf 6 + pm_sz g = _
    rw [h3, List.length_cons, Nat.succ_mul, Nat.add_comm]
theorem sz_app : ∀ (S g : List pm_S), pm_sz (S ++ g) = pm_sz S + pm_sz g := by
  intro S g
  unfold pm_sz
  rw [List.map_append, List.sum_append]
theorem sz_S0 : pm_sz pm_S0 ≤ 10000 := by decide +kernel
end P64
set_option maxHeartbeats 4000000 in
/-- THE LAW, from its entry -/
theorem whole_start {p : Program} {e : Env} {s : State} {m : MethodId} {below : List Frame} {meth : Method} {c : Code} (l : Launch) (hflags : l.flags = flags0) {b L : Nat} {xs : Nat → Int32} (hL : L ≤ 3072) (C0 : lw_At p s m meth c b L xs) : W p l e room_1 s m #[Value.ref b] below meth c s.heap [] 0 0 (lw_Z below #[Value.ref b] s) (entryFrame m ([Value.ref b] : List Value).toArray 4) := by
  obtain ⟨hx, hb, hr, hml, hown, hts, hX, hbl, hlocks, hgv⟩ := id C0
  obtain ⟨D, hDk⟩ := st_cl hts
  obtain ⟨κ, hκ⟩ := st_ty hts
  obtain ⟨X, α, hXL, hα, hO⟩ := st_of hts hX hbl hgv
  obtain ⟨g', I', J', hg, hg6, n, o, hrun, ho⟩ := law_run (X := X) (by rw [hXL]; exact hL)
  have hg' : ∀ w ∈ lw_g, w.before #[Value.ref b] s = true := fun w hw => hts w (List.mem_filter.mp hw).1
  have F : pm_Fr p s #[Value.ref b] m meth c 192 := ⟨hx, hb, hml, hown, hg', hlocks, hr, fun z => absurd z (by decide)⟩
  have hK : va_K D pm_cl8 (pm_tys κ) s := ⟨hDk, hκ⟩
  have hP : va_P D pm_cl8 (pm_ws κ α ([], pm_Z, pm_ZJ)) s.heap := fun k q h => by simp [pm_ws] at h
  have hD : va_D (fun q : Nat => s.heap.size ≤ q) (pm_ws κ α ([], pm_Z, pm_ZJ)) := ⟨fun i j p q h => by simp [pm_ws] at h, fun k q h => by simp [pm_ws] at h⟩
  have hl := lv_entry ([Value.ref b]) (n := 4) (Nat.le_of_ble_eq_true rfl)
  rw [lg_entry_eq]
  generalize (lg_sl ([Value.ref b]) ++ List.replicate (4 - (lg_sl ([Value.ref b])).length) Slot.unset).toArray = arr at hl ⊢
  have hl' : lv_has arr (pm_ml 192) (lv_args 0 (([Value.ref 1000000] : List Value).map (pm_mv α))) := by
    show lv_has arr 4 (lv_args 0 [Value.ref (α 1000000)])
    rw [hα]
    exact hl
  have hLH : pm_LH α arr (pm_ml 192) (pm_ent (pm_ml 192) [.ref 1000000]) := pm_LH_ent hl' (Nat.le_of_ble_eq_true rfl)
  subst ho
  have hlen : (pm_S0 ++ g').length = 123 + g'.length := by rw [List.length_append, S0_len]
  have hsz : pm_sz (pm_S0 ++ g') ≤ 7302250 := by
    have h1 := sz_S0
    have h2 : pm_nf 6 ≤ 100 := by decide
    have h3 : g'.length * pm_nf 6 ≤ 512 * 100 := Nat.mul_le_mul hg h2
    rw [sz_app, sz_g g' hg6]
    omega
  refine pm_sim X n 63 192 0 _ [] ([], pm_Z, pm_ZJ) (some (.int 1), (pm_S0 ++ g', I', J')) hrun p l e room_1 s m #[Value.ref b] below meth c D κ (fun q => s.heap.size ≤ q) _ α arr s.heap [] 0 0 600000 7302250 F hO (fun q h => h) ⟨Nat.le_of_ble_eq_true rfl, Nat.le_of_ble_eq_true rfl⟩ hK hLH ⟨hP, hD, va_S.rf⟩ ?_ ?_ (Nat.le_refl _) (Nat.le_refl _) ?_
  · show 0 + (pm_S0 ++ g').length ≤ 600000 + 0
    rw [hlen]
    omega
  · show 0 + pm_sz (pm_S0 ++ g') ≤ 7302250 + 0
    omega
  · intro α' arr' H' locs' cells' slots' pc' hext hRe hc hs hrd
    refine va_forget (fun q hq => hRe.2.2.2.2 q hq) ?_
    refine W.widen hc hs ?_
    exact lw_ret hx hb hr hlocks hrd.1
