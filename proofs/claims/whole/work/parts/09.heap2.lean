/-! steps that read rows, copy, make -/
section PMI
variable {X : pm_X} {p : Program} {l : Launch} {e : Env} {R : Room} {s : State} {m' : MethodId} {args : Array Value} {below : List Frame} {meth : Method} {c : Code} {D : va_G} {κ : Nat → ClassId} {A : Nat → Prop} {Q : State → Prop} {m : Nat}
variable {α : Nat → Nat} {arr : Array Slot} {H : Heap} {locs : List Loc} {cells slots pc pc' : Nat} {h h' : pm_H} {ls ls' : List (Option Value)} {st st' : List Value} {s' : pm_St}
theorem pm_ia_sim {v i : Int32} {a : Nat} {r : List Value} (F : pm_Fr p s args m' meth c m) (O : pm_OF X α A s s.heap) (hd : decode (pm_b m) pc = .ok (.iaload, 1)) (hK : va_K D pm_cl8 (pm_tys κ) s) (L : pm_LH α arr (pm_ml m) ls) (Rr : pm_Re D κ α A s h H locs) (hv : pm_ia X h.1 h.2.1 a i = some v) (G : pm_G p l e R s m' args below meth c D κ A Q m α cells slots h (pc + 1, ls, .int v :: r, h)) : W p l e R s m' args below meth c H locs cells slots Q (F0 m' pc arr ((.int i :: .ref a :: r : List Value).map (pm_mv α))) := by
  obtain ⟨hx, hb, -⟩ := F
  unfold pm_ia at hv
  split at hv
  · rename_i n rs hc
    split at hv
    · cases hv
    · rename_i hi
      cases hv
      exact va_iald hx hb hK Rr.1 a 0 (pm_ws_get hc) rfl (pm_bad_in (by simpa using hi)) hd (pm_G_same G L Rr)
  · cases hv
  · split at hv
    · rename_i n f hq
      split at hv
      · cases hv
      · rename_i hi
        cases hv
        have hin := pm_bad_in (Bool.eq_false_iff.mpr hi)
        obtain ⟨⟨a1, a2, a3⟩, ⟨b1, b2⟩, ⟨c1, c2⟩, -⟩ := O
        unfold pm_out at hq
        split at hq
        · rename_i e0
          subst e0
          cases hq
          exact va_sld hx hb a1 a2 a3 Rr.2.2 hin hd (pm_G_same G L Rr)
        · split at hq
          · rename_i e0
            subst e0
            cases hq
            exact va_ti hx hb b2 Rr.2.2 hin rfl hd (pm_G_same G L Rr)
          · split at hq
            · rename_i e0
              subst e0
              cases hq
              exact va_ti hx hb c2 Rr.2.2 hin rfl hd (pm_G_same G L Rr)
            · cases hq
    · cases hv
theorem pm_ba_sim {v i : Int32} {a : Nat} {r : List Value} (F : pm_Fr p s args m' meth c m) (O : pm_OF X α A s s.heap) (hd : decode (pm_b m) pc = .ok (.baload, 1)) (hK : va_K D pm_cl8 (pm_tys κ) s) (L : pm_LH α arr (pm_ml m) ls) (Rr : pm_Re D κ α A s h H locs) (hv : pm_ba h.1 h.2.1 a i = some v) (G : pm_G p l e R s m' args below meth c D κ A Q m α cells slots h (pc + 1, ls, .int v :: r, h)) : W p l e R s m' args below meth c H locs cells slots Q (F0 m' pc arr ((.int i :: .ref a :: r : List Value).map (pm_mv α))) := by
  obtain ⟨hx, hb, -⟩ := F
  unfold pm_ba at hv
  split at hv
  · rename_i n rs hc
    split at hv
    · cases hv
    · rename_i hi
      cases hv
      exact va_bald hx hb hK Rr.1 a 1 (pm_ws_get hc) rfl (pm_bad_in (Bool.eq_false_iff.mpr hi)) hd (pm_G_same G L Rr)
  · rename_i n rs hc
    split at hv
    · cases hv
    · rename_i hi
      cases hv
      exact va_zald hx hb hK Rr.1 a 2 (pm_ws_get hc) rfl (pm_bad_in (Bool.eq_false_iff.mpr hi)) hd (pm_G_same G L Rr)
  · cases hv
  · split at hv
    · rename_i t ht
      split at hv
      · cases hv
      · rename_i hi
        cases hv
        obtain ⟨j, hj, rfl, e1, e2⟩ := pm_byt_inv ht
        obtain ⟨-, -, -, ⟨-, d2, -⟩, -⟩ := O
        obtain ⟨-, -, -, c3⟩ := d2.1 j hj
        rw [e1, e2] at c3
        have hin := pm_bad_in (Bool.eq_false_iff.mpr hi)
        have hlt : i.toNatClampNeg < t.length := Nat.not_le.mp fun q => hin (Or.inr q)
        refine va_tb hx hb c3 Rr.2.2 hin ?_ hd (pm_G_same G L Rr)
        simp [List.getD_eq_getElem?_getD, hlt, pm_mv]
    · cases hv
theorem pm_la_sim {v : Int64} {i : Int32} {a : Nat} {r : List Value} (F : pm_Fr p s args m' meth c m) (hd : decode (pm_b m) pc = .ok (.laload, 1)) (hK : va_K D pm_cl8 (pm_tys κ) s) (L : pm_LH α arr (pm_ml m) ls) (Rr : pm_Re D κ α A s h H locs) (hv : pm_la h.1 h.2.2 a i = some v) (G : pm_G p l e R s m' args below meth c D κ A Q m α cells slots h (pc + 1, ls, .long v :: r, h)) : W p l e R s m' args below meth c H locs cells slots Q (F0 m' pc arr ((.int i :: .ref a :: r : List Value).map (pm_mv α))) := by
  obtain ⟨hx, hb, -⟩ := F
  unfold pm_la at hv
  split at hv
  · rename_i n rs hc
    split at hv
    · cases hv
    · rename_i hi
      cases hv
      exact va_lald hx hb hK Rr.1 a 3 (pm_ws_get hc) rfl (pm_bad_in (Bool.eq_false_iff.mpr hi)) hd (pm_G_same G L Rr)
  · cases hv
theorem pm_rf_mv (α : Nat → Nat) (r : Option Nat) : va_rf (r.map α) = pm_mv α (pm_rf r) := by cases r <;> rfl
theorem pm_aa_sim {v : Value} {i : Int32} {a : Nat} {r : List Value} (F : pm_Fr p s args m' meth c m) (hd : decode (pm_b m) pc = .ok (.aaload, 1)) (hK : va_K D pm_cl8 (pm_tys κ) s) (L : pm_LH α arr (pm_ml m) ls) (Rr : pm_Re D κ α A s h H locs) (hv : pm_aa h.1 a i = some v) (G : pm_G p l e R s m' args below meth c D κ A Q m α cells slots h (pc + 1, ls, v :: r, h)) : W p l e R s m' args below meth c H locs cells slots Q (F0 m' pc arr ((.int i :: .ref a :: r : List Value).map (pm_mv α))) := by
  obtain ⟨hx, hb, -⟩ := F
  unfold pm_aa at hv
  split at hv
  · rename_i n rs hc
    split at hv
    · cases hv
    · rename_i hi
      cases hv
      refine va_aldq hx hb hK Rr.1 a 4 (pm_ws_get hc) rfl (pm_bad_in (Bool.eq_false_iff.mpr hi)) hd ?_
      rw [pm_rf_mv]
      exact pm_G_same G L Rr
  · rename_i n rs hc
    split at hv
    · cases hv
    · rename_i hi
      cases hv
      refine va_aldq hx hb hK Rr.1 a 5 (pm_ws_get hc) rfl (pm_bad_in (Bool.eq_false_iff.mpr hi)) hd ?_
      rw [pm_rf_mv]
      exact pm_G_same G L Rr
  · cases hv
theorem pm_len_sim {v : Int32} {a : Nat} {r : List Value} (F : pm_Fr p s args m' meth c m) (O : pm_OF X α A s s.heap) (hd : decode (pm_b m) pc = .ok (.arraylength, 1)) (hK : va_K D pm_cl8 (pm_tys κ) s) (L : pm_LH α arr (pm_ml m) ls) (Rr : pm_Re D κ α A s h H locs) (hv : pm_len X h.1 a = some v) (G : pm_G p l e R s m' args below meth c D κ A Q m α cells slots h (pc + 1, ls, .int v :: r, h)) : W p l e R s m' args below meth c H locs cells slots Q (F0 m' pc arr ((.ref a :: r : List Value).map (pm_mv α))) := by
  obtain ⟨hx, hb, -⟩ := F
  unfold pm_len at hv
  split at hv
  · cases hv
  · rename_i t n rs hne hc
    cases hv
    match t, hne, hc with
    | 0, hne, hc => exact (hne rfl).elim
    | 1, _, hc => exact va_alen hx hb hK Rr.1 a 0 (pm_ws_get hc) rfl rfl hd (pm_G_same G L Rr)
    | 2, _, hc => exact va_alen hx hb hK Rr.1 a 1 (pm_ws_get hc) rfl rfl hd (pm_G_same G L Rr)
    | 3, _, hc => exact va_alen hx hb hK Rr.1 a 2 (pm_ws_get hc) rfl rfl hd (pm_G_same G L Rr)
    | 4, _, hc => exact va_alen hx hb hK Rr.1 a 3 (pm_ws_get hc) rfl rfl hd (pm_G_same G L Rr)
    | 5, _, hc => exact va_alen hx hb hK Rr.1 a 4 (pm_ws_get hc) rfl rfl hd (pm_G_same G L Rr)
    | t + 6, _, hc => exact va_alen hx hb hK Rr.1 a 5 (pm_ws_get hc) rfl rfl hd (pm_G_same G L Rr)
  · split at hv
    · rename_i n f hq
      cases hv
      obtain ⟨⟨a1, a2, a3⟩, ⟨b1, b2⟩, ⟨c1, c2⟩, -⟩ := O
      unfold pm_out at hq
      split at hq
      · rename_i e0
        subst e0
        cases hq
        exact va_slen hx hb a1 a2 a3 Rr.2.2 hd (pm_G_same G L Rr)
      · split at hq
        · rename_i e0
          subst e0
          cases hq
          exact va_tlen hx hb b2 Rr.2.2 rfl hd (pm_G_same G L Rr)
        · split at hq
          · rename_i e0
            subst e0
            cases hq
            exact va_tlen hx hb c2 Rr.2.2 rfl hd (pm_G_same G L Rr)
          · cases hq
    · split at hv
      · rename_i t ht
        cases hv
        obtain ⟨j, hj, rfl, e1, e2⟩ := pm_byt_inv ht
        obtain ⟨-, -, -, ⟨-, d2, -⟩, -⟩ := O
        obtain ⟨-, -, -, c3⟩ := d2.1 j hj
        rw [e1] at c3
        exact va_tlen hx hb c3 Rr.2.2 rfl hd (pm_G_same G L Rr)
      · cases hv
theorem pm_aast_sim {i : Int32} {a b t n : Nat} {rs : List (Option Nat)} {r : List Value} (F : pm_Fr p s args m' meth c m) (hd : decode (pm_b m) pc = .ok (.aastore, 1)) (hK : va_K D pm_cl8 (pm_tys κ) s) (L : pm_LH α arr (pm_ml m) ls) (Rr : pm_Re D κ α A s h H locs) (hc : h.1[a]? = some (t, n, rs)) (ho : ((t == 5 && pm_isO h.1 b 4 || t == 6 && pm_isO h.1 b 3) && !pm_bad i n && decide (i.toNatClampNeg < rs.length)) = true) (G : pm_G p l e R s m' args below meth c D κ A Q m α cells slots h (pc + 1, ls, r, (h.1.set a (t, n, rs.set i.toNatClampNeg (some b)), h.2))) : W p l e R s m' args below meth c H locs cells slots Q (F0 m' pc arr ((.ref b :: .int i :: .ref a :: r : List Value).map (pm_mv α))) := by
  obtain ⟨hx, hb, -⟩ := F
  simp only [Bool.and_eq_true, Bool.or_eq_true, beq_iff_eq, Bool.not_eq_true', decide_eq_true_eq] at ho
  obtain ⟨⟨hk, hi⟩, hlen⟩ := ho
  have hf : (fun j => ((rs.set i.toNatClampNeg (some b)).getD j none).map α) = va_up (fun j => (rs.getD j none).map α) i.toNatClampNeg (some (α b)) := by
    funext j
    by_cases q : j = i.toNatClampNeg
    · subst q
      simp [va_up, List.getD_eq_getElem?_getD, hlen]
    · have q2 : ¬ i.toNatClampNeg = j := fun z => q z.symm
      simp [va_up, q, List.getD_eq_getElem?_getD, List.getElem?_set, q2]
  have e2 := fun c' => pm_ws_set (κ := κ) (α := α) (S := h.1) (I := h.2.1) (I' := h.2.1) (J := h.2.2) (J' := h.2.2) (a := a) (c' := c') (fun _ _ => rfl) (fun _ _ => rfl)
  rcases hk with ⟨rfl, hbo⟩ | ⟨rfl, hbo⟩
  · obtain ⟨rs2, hc2⟩ := pm_isO_inv hbo
    refine va_astq (r := (pm_C 4, pm_T 4, pm_nf 4)) hx hb hK Rr.1 Rr.2.1 Rr.2.2 a 4 b 4 (pm_ws_get hc) rfl (pm_ws_get hc2) rfl (pm_bad_in hi) hd (fun H1 locs1 hP hD hS => ?_)
    have e : (.inl (κ 5, n, .inr (.inr (.inr (.inr (va_up (fun j => (rs.getD j none).map α) i.toNatClampNeg (some (α b))))))) : va_E) = pm_cell κ α (h.2.1 a) (h.2.2 a) (5, n, rs.set i.toNatClampNeg (some b)) := by rw [← hf]; rfl
    rw [e, show pm_ws κ α h = pm_ws κ α (h.1, h.2.1, h.2.2) from rfl, e2] at hP hD
    exact pm_G_heap G (by simp) (pm_sz_set hc) L ⟨hP, hD, hS⟩
  · obtain ⟨rs2, hc2⟩ := pm_isO_inv hbo
    refine va_astq (r := (pm_C 3, pm_T 3, pm_nf 3)) hx hb hK Rr.1 Rr.2.1 Rr.2.2 a 5 b 3 (pm_ws_get hc) rfl (pm_ws_get hc2) rfl (pm_bad_in hi) hd (fun H1 locs1 hP hD hS => ?_)
    have e : (.inl (κ 6, n, .inr (.inr (.inr (.inr (va_up (fun j => (rs.getD j none).map α) i.toNatClampNeg (some (α b))))))) : va_E) = pm_cell κ α (h.2.1 a) (h.2.2 a) (6, n, rs.set i.toNatClampNeg (some b)) := by rw [← hf]; rfl
    rw [e, show pm_ws κ α h = pm_ws κ α (h.1, h.2.1, h.2.2) from rfl, e2] at hP hD
    exact pm_G_heap G (by simp) (pm_sz_set hc) L ⟨hP, hD, hS⟩
/-- what is made -/
theorem pm_nw_inv {t n : Nat} {rs : List (Option Nat)} (hs : pm_nw t n rs pc ls st h = some (.inl s')) : pm_wfs h.1.length ls st = true ∧ pm_wfh h.1.length h.1 = true ∧ h.1.length < 1000000 ∧ s' = (pc, ls, .ref h.1.length :: st, (h.1 ++ [(t, n, rs)], pm_up h.2.1 h.1.length (fun _ => 0), pm_upJ h.2.2 h.1.length (fun _ => 0))) := by
  unfold pm_nw at hs
  split at hs
  · rename_i q
    simp only [Bool.and_eq_true, decide_eq_true_eq] at q
    exact ⟨q.1.1, q.1.2, q.2, pm_n_inv hs⟩
  · cases hs
theorem pm_G_new {t n : Nat} {rs : List (Option Nat)} (G : pm_G p l e R s m' args below meth c D κ A Q m α cells slots h (pc', ls, .ref h.1.length :: st, (h.1 ++ [(t, n, rs)], pm_up h.2.1 h.1.length (fun _ => 0), pm_upJ h.2.2 h.1.length (fun _ => 0)))) (L : pm_LH α arr (pm_ml m) ls) (hw : pm_wfs h.1.length ls st = true) (hwf : pm_wfh h.1.length h.1 = true) (hlt : h.1.length < 1000000) {q : Nat} {H1 : Heap} {E : va_E} {k : Nat} (hE : ∀ α', pm_cell κ α' (fun _ => 0) (fun _ => 0) (t, n, rs) = E) (hk : pm_cs (t, n, rs) = k) (hP : va_P D pm_cl8 (pm_ws κ α h ++ [(q, E)]) H1) (hD : va_D A (pm_ws κ α h ++ [(q, E)])) (hS : va_S A s.heap H1 locs) : W p l e R s m' args below meth c H1 locs (cells + 1) (slots + k) Q (F0 m' pc' arr (.ref q :: st.map (pm_mv α))) := by
  subst hk
  simp only [pm_wfs, Bool.and_eq_true] at hw
  have hag : pm_ag h.1.length α (fun k => if k = h.1.length then q else α k) := by
    intro k hk
    have : k ≠ h.1.length := by omega
    simp [this]
  have hws := pm_ws_new (κ := κ) (α' := fun k => if k = h.1.length then q else α k) (I := h.2.1) (J := h.2.2) (c := (t, n, rs)) (q := q) hag (by simp) hwf (fun _ => 0) (fun _ => 0)
  rw [hE] at hws
  have := G (fun k => if k = h.1.length then q else α k) arr H1 locs (cells + 1) (slots + pm_cs (t, n, rs)) ⟨hag, fun z => absurd z (by simp)⟩ (pm_LH_ag hag L hw.1) ⟨by rw [hws]; exact hP, by rw [hws]; exact hD, hS⟩ (by simp; omega) (by show _ = slots + pm_sz (h.1 ++ [(t, n, rs)]); rw [pm_sz_app]; omega)
  have e : (Value.ref h.1.length :: st).map (pm_mv (fun k => if k = h.1.length then q else α k)) = .ref q :: st.map (pm_mv α) := by
    rw [List.map_cons, pm_mvs_ag hag hw.2]
    simp [pm_mv]
  rw [← e]
  exact this
theorem pm_new_sim {x ci pl z : Nat} (F : pm_Fr p s args m' meth c m) (hA : ∀ q, s.heap.size ≤ q → A q) (hd : decode (pm_b m) pc = .ok (.new x, 3)) (hk : pm_lnk m (.new x) (ci, pl, z) = true) (hK : va_K D pm_cl8 (pm_tys κ) s) (L : pm_LH α arr (pm_ml m) ls) (Rr : pm_Re D κ α A s h H locs) (hs : pm_nw 0 ci (List.replicate (pm_nf ci) none) (pc + 3) ls st h = some (.inl s')) (hrc : cells + s'.2.2.2.1.length ≤ R.cells + h.1.length) (hrs : slots + pm_sz s'.2.2.2.1 ≤ R.slots + pm_sz h.1) (G : pm_G p l e R s m' args below meth c D κ A Q m α cells slots h s') : W p l e R s m' args below meth c H locs cells slots Q (F0 m' pc arr (st.map (pm_mv α))) := by
  obtain ⟨hx, hb, hml, hown, hts, hlo, hr, hnm⟩ := F
  simp only [pm_lnk, Bool.and_eq_true, decide_eq_true_eq] at hk
  obtain ⟨⟨⟨hci, hw1⟩, hw2⟩, hw3⟩ := hk
  obtain ⟨w1, w2, w3, rfl⟩ := pm_nw_inv hs
  have hrc' : cells + 1 ≤ R.cells := by simp at hrc; omega
  have hrs' : slots + pm_nf ci ≤ R.slots := by
    have : pm_sz (h.1 ++ [(0, ci, List.replicate (pm_nf ci) none)]) = pm_sz h.1 + pm_nf ci := pm_sz_app _ _
    simp only at hrs
    omega
  have hg : ∀ k, (List.replicate (pm_nf ci) (none : Option Nat)).getD k none = none := by
    intro k
    rw [List.getD_eq_getElem?_getD, List.getElem?_replicate]
    split <;> rfl
  refine va_new (ci := ci) (fs := (List.range (pm_nf ci)).map (fun k => if pm_ft ci k = 2 then Value.null else .int 0)) (C := pm_C ci) (T := pm_T ci) (N := pm_nf ci) hx hb hts (pm_in ci hci) (pm_Y ci) (pm_ty ci hci) hown (hts _ (pm_has_g hw1 rfl)) (hts _ (pm_has_g hw2 rfl)) (hts _ (pm_has_g hw3 rfl)) hK Rr.1 Rr.2.1 Rr.2.2 hA (pm_cl8_at ci hci) ?_ hrc' hrs' hd (fun q H1 hP hD hS => pm_G_new G L w1 w2 w3 ?_ rfl hP hD hS)
  · intro j hj
    obtain ⟨y0, y1, y2, y3⟩ := pm_fy ci hci j hj
    have e : vp_V ((List.range (pm_nf ci)).map (fun k => if pm_ft ci k = 2 then Value.null else .int 0)) j = if pm_ft ci j = 2 then Value.null else .int 0 := by
      unfold vp_V
      rw [List.getD_eq_getElem?_getD, pm_fs_at hj]
      rfl
    rw [e]
    rcases (show pm_ft ci j = 0 ∨ pm_ft ci j = 1 ∨ pm_ft ci j = 2 by omega) with q | q | q
    · rw [y0 q, q]; rfl
    · rw [y1 q, q]; rfl
    · rw [(y2 q).1, q]; rfl
  · intro α'
    show (Sum.inr _ : va_E) = _
    congr 2
    apply List.map_congr_left
    intro k _
    rw [hg]
    rfl
theorem pm_RA_u {a b : ClassId} {ty : FieldType} (h1 : va_RA s a ty) (h2 : va_RA s b ty) : a = b := by
  cases ty with
  | object C =>
    obtain ⟨_, _, _, _, _, e1⟩ := h1
    obtain ⟨_, _, _, _, _, e2⟩ := h2
    exact Option.some.inj (e1.symm.trans e2)
  | _ => exact Option.some.inj (Eq.trans (Eq.symm h1) h2)
theorem pm_cA_eq {cA : ClassId} {ty : FieldType} {t0 : Nat} {cB : ClassId} (hK : va_K D pm_cl8 (pm_tys κ) s) (ht : (pm_tys κ)[t0]? = some (cB, ty)) (hK2 : va_K D pm_cl8 (pm_tys κ ++ [(cA, ty)]) s) : cA = cB :=
  pm_RA_u (hK2.2 6 (cA, ty) rfl).2 (hK.2 t0 _ ht).2
theorem pm_na_sim {t : ArrayType} {r0 : Nat × Nat × Nat} (F : pm_Fr p s args m' meth c m) (hA : ∀ q, s.heap.size ≤ q → A q) (hd : decode (pm_b m) pc = .ok (.newarray t, 2)) (hk : pm_lnk m (.newarray t) r0 = true) (hK : va_K D pm_cl8 (pm_tys κ) s) (L : pm_LH α arr (pm_ml m) ls) (Rr : pm_Re D κ α A s h H locs) (hs : pm_na t pc ls st h = some (.inl s')) (hrc : cells + s'.2.2.2.1.length ≤ R.cells + h.1.length) (hrs : slots + pm_sz s'.2.2.2.1 ≤ R.slots + pm_sz h.1) (G : pm_G p l e R s m' args below meth c D κ A Q m α cells slots h s') : W p l e R s m' args below meth c H locs cells slots Q (F0 m' pc arr (st.map (pm_mv α))) := by
  obtain ⟨hx, hb, hml, hown, hts, hlo, hr, hnm⟩ := F
  unfold pm_na at hs
  split at hs
  · rename_i n r
    split at hs
    · rename_i k hk4
      split at hs
      · cases hs
      · rename_i hn
        obtain ⟨w1, w2, w3, rfl⟩ := pm_nw_inv hs
        have hrc' : cells + 1 ≤ R.cells := by simp at hrc; omega
        have hrs' : slots + n.toNatClampNeg ≤ R.slots := by
          have : pm_sz (h.1 ++ [(k, n.toNatClampNeg, [])]) = pm_sz h.1 + pm_cs (k, n.toNatClampNeg, []) := pm_sz_app _ _
          have e : pm_cs (k, n.toNatClampNeg, []) = n.toNatClampNeg := by
            cases t <;> simp [pm_at4] at hk4 <;> subst hk4 <;> rfl
          simp only at hrs
          omega
        have hn1 : ¬ n < 0 := fun z => hn (Or.inl z)
        have hn2 : n.toNatClampNeg ≤ 10000 := by
          rcases Nat.lt_or_ge 10000 n.toNatClampNeg with z | z
          · exact absurd (Or.inr z) hn
          · exact z
        cases t <;> simp only [pm_at4, Option.some.injEq, reduceCtorEq] at hk4 <;> subst hk4
        · refine va_newa (atype := .boolean) (ty := .boolean) (N' := n.toNatClampNeg) (a0 := (n.toNatClampNeg, .inl (fun _ => 0))) hx hb (hts _ (pm_has_g hk rfl)) rfl hK Rr.1 Rr.2.1 Rr.2.2 hA (fun _ => rfl) hn1 rfl (by simp [componentBytes]; omega) hrc' hrs' hd (fun q cA H1 hK2 hP hD hS => ?_)
          obtain rfl := pm_cA_eq (t0 := 2) (cB := κ 3) hK rfl hK2
          exact pm_G_new G L (by simpa [pm_wfs] using w1) w2 w3 (fun _ => rfl) rfl hP hD hS
        · refine va_newa (atype := .byte) (ty := .byte) (N' := n.toNatClampNeg) (a0 := (n.toNatClampNeg, .inl (fun _ => 0))) hx hb (hts _ (pm_has_g hk rfl)) rfl hK Rr.1 Rr.2.1 Rr.2.2 hA (fun _ => rfl) hn1 rfl (by simp [componentBytes]; omega) hrc' hrs' hd (fun q cA H1 hK2 hP hD hS => ?_)
          obtain rfl := pm_cA_eq (t0 := 1) (cB := κ 2) hK rfl hK2
          exact pm_G_new G L (by simpa [pm_wfs] using w1) w2 w3 (fun _ => rfl) rfl hP hD hS
        · refine va_newa (atype := .int) (ty := .int) (N' := n.toNatClampNeg) (a0 := (n.toNatClampNeg, .inl (fun _ => 0))) hx hb (hts _ (pm_has_g hk rfl)) rfl hK Rr.1 Rr.2.1 Rr.2.2 hA (fun _ => rfl) hn1 rfl (by simp [componentBytes]; omega) hrc' hrs' hd (fun q cA H1 hK2 hP hD hS => ?_)
          obtain rfl := pm_cA_eq (t0 := 0) (cB := κ 1) hK rfl hK2
          exact pm_G_new G L (by simpa [pm_wfs] using w1) w2 w3 (fun _ => rfl) rfl hP hD hS
        · refine va_newa (atype := .long) (ty := .long) (N' := n.toNatClampNeg) (a0 := (n.toNatClampNeg, .inr (.inl (fun _ => 0)))) hx hb (hts _ (pm_has_g hk rfl)) rfl hK Rr.1 Rr.2.1 Rr.2.2 hA (fun _ => rfl) hn1 rfl (by simp [componentBytes]; omega) hrc' hrs' hd (fun q cA H1 hK2 hP hD hS => ?_)
          obtain rfl := pm_cA_eq (t0 := 3) (cB := κ 4) hK rfl hK2
          exact pm_G_new G L (by simpa [pm_wfs] using w1) w2 w3 (fun _ => rfl) rfl hP hD hS
    · cases hs
  · cases hs
end PMI
