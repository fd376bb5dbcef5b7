/-! steps that touch the heap -/
section PMH
variable {X : pm_X} {p : Program} {l : Launch} {e : Env} {R : Room} {s : State} {m' : MethodId} {args : Array Value} {below : List Frame} {meth : Method} {c : Code} {D : va_G} {κ : Nat → ClassId} {A : Nat → Prop} {Q : State → Prop} {m : Nat}
variable {α : Nat → Nat} {arr : Array Slot} {H : Heap} {locs : List Loc} {cells slots pc pc' : Nat} {h h' : pm_H} {ls ls' : List (Option Value)} {st st' : List Value} {s' : pm_St}
theorem pm_isO_inv {S : List pm_S} {a ci : Nat} (h : pm_isO S a ci = true) : ∃ rs, S[a]? = some (0, ci, rs) := by
  unfold pm_isO at h
  split at h
  · rename_i c rs hc
    exact ⟨rs, by rw [hc]; simp at h; rw [h]⟩
  · cases h
theorem pm_rg_inv {S : List pm_S} {a ci k : Nat} {v : Value} (h : pm_rg S a ci k = some v) : ∃ rs, S[a]? = some (0, ci, rs) ∧ v = pm_rf (rs.getD k none) := by
  unfold pm_rg at h
  split at h
  · rename_i c rs hc
    split at h
    · rename_i q
      subst q
      cases h
      exact ⟨rs, hc, rfl⟩
    · cases h
  · cases h
theorem pm_w_at (I : Nat → Nat → Int32) (a k : Nat) (v : Int32) : pm_w I a k v a = upd (I a) k v := by simp [pm_w, pm_up]
theorem pm_w_ne (I : Nat → Nat → Int32) (a k : Nat) (v : Int32) : ∀ i, i ≠ a → pm_w I a k v i = I i := by
  intro i hi
  simp [pm_w, pm_up, hi]
theorem pm_wJ_at (J : Nat → Nat → Int64) (a k : Nat) (v : Int64) : pm_wJ J a k v a = vp_updL (J a) k v := by simp [pm_wJ, pm_upJ]
theorem pm_wJ_ne (J : Nat → Nat → Int64) (a k : Nat) (v : Int64) : ∀ i, i ≠ a → pm_wJ J a k v i = J i := by
  intro i hi
  simp [pm_wJ, pm_upJ, hi]
theorem pm_fs_at {n : Nat} {F : Nat → Value} {k : Nat} (hk : k < n) : ((List.range n).map F)[k]? = some (F k) := by
  simp [List.getElem?_range, hk]
theorem pm_fs_set {n : Nat} {F F' : Nat → Value} {k : Nat} {v : Value} (hne : ∀ j, j ≠ k → F' j = F j) (hk : F' k = v) : ((List.range n).map F).set k v = (List.range n).map F' := by
  apply List.ext_getElem?
  intro i
  rw [List.getElem?_set, List.getElem?_map, List.getElem?_map]
  by_cases q : k = i
  · subst q
    by_cases hl : k < n
    · simp [hl, hk]
    · simp [hl]
  · simp only [if_neg q]
    by_cases hl : i < n
    · simp [hl, hne i (fun z => q z.symm)]
    · simp [hl]
theorem pm_txt_inv {a : Nat} {t : List Nat} (h : pm_txt a = some t) : ∃ j, j < 7 ∧ a = 1000010 + j ∧ pm_sln.getD j 0 = t.length ∧ pm_sby.getD j [] = t.map (fun x => Int32.ofNat x) := by
  unfold pm_txt at h
  split at h
  · rename_i e; cases h; exact ⟨0, by omega, e, rfl, by decide +kernel⟩
  · split at h
    · rename_i e; cases h; exact ⟨1, by omega, e, rfl, by decide +kernel⟩
    · split at h
      · rename_i e; cases h; exact ⟨2, by omega, e, rfl, by decide +kernel⟩
      · split at h
        · rename_i e; cases h; exact ⟨3, by omega, e, rfl, by decide +kernel⟩
        · split at h
          · rename_i e; cases h; exact ⟨4, by omega, e, rfl, by decide +kernel⟩
          · split at h
            · rename_i e; cases h; exact ⟨5, by omega, e, rfl, by decide +kernel⟩
            · split at h
              · rename_i e; cases h; exact ⟨6, by omega, e, rfl, by decide +kernel⟩
              · cases h
theorem pm_byt_inv {a : Nat} {t : List Nat} (h : pm_byt a = some t) : ∃ j, j < 7 ∧ a = 1000030 + j ∧ pm_sln.getD j 0 = t.length ∧ pm_sby.getD j [] = t.map (fun x => Int32.ofNat x) := by
  unfold pm_byt at h
  split at h
  · rename_i hge
    obtain ⟨j, h1, h2, h3, h4⟩ := pm_txt_inv h
    exact ⟨j, h1, by omega, h3, h4⟩
  · cases h
theorem pm_gf_sim {x ci k pl : Nat} (F : pm_Fr p s args m' meth c m) (O : pm_OF X α A s s.heap) (hd : decode (pm_b m) pc = .ok (.getfield x, 3)) (hk : pm_lnk m (.getfield x) (ci, k, pl) = true) (hK : va_K D pm_cl8 (pm_tys κ) s) (L : pm_LH α arr (pm_ml m) ls) (Rr : pm_Re D κ α A s h H locs) (hs : pm_gf ci k pc ls st h = some (.inl s')) (G : pm_G p l e R s m' args below meth c D κ A Q m α cells slots h s') : W p l e R s m' args below meth c H locs cells slots Q (F0 m' pc arr (st.map (pm_mv α))) := by
  obtain ⟨hx, hb, hml, hown, hts, hlo, hr, hnm⟩ := F
  unfold pm_gf at hs
  split at hs
  · rename_i a r
    split at hs
    · rename_i e20
      subst e20
      simp only [pm_lnk, if_true] at hk
      split at hs
      · rename_i t ht
        obtain rfl := pm_n_inv hs
        obtain ⟨j, hj, rfl, -, -⟩ := pm_txt_inv ht
        obtain ⟨-, -, -, ⟨-, d2, -⟩, -⟩ := O
        obtain ⟨-, c1, c2, -⟩ := d2.1 j hj
        by_cases q : k = 0
        · subst q
          simp only [if_true] at hk G
          rw [show 1000010 + j + 20 = 1000030 + j by omega] at G
          exact vk_getf hx hb c2 Rr.2.2 hown (hts _ (pm_has_g hk rfl)) (fun _ z => z) hd (pm_G_same G L Rr)
        · simp only [if_neg q] at hk G
          exact vk_getf hx hb c1 Rr.2.2 hown (hts _ (pm_has_g hk rfl)) (fun _ z => z) hd (pm_G_same G L Rr)
      · cases hs
    rename_i e20
    simp only [pm_lnk, if_neg e20, Bool.and_eq_true, decide_eq_true_eq] at hk
    obtain ⟨⟨hci, hkn, -⟩, hw⟩ := hk
    split at hs
    · rename_i hft
      split at hs
      · rename_i v hv
        obtain rfl := pm_n_inv hs
        obtain ⟨rs, hc, rfl⟩ := pm_rg_inv hv
        refine va_get (D := D) (ci := ci) (v := pm_mv α (pm_rf (rs.getD k none))) (C := pm_C ci) (T := pm_T ci) (N := pm_nf ci) hx hb hts (pm_in ci hci) hown hK Rr.1 a (pm_ws_get hc) (pm_cl8_at ci hci) k hkn (hts _ (pm_has_g hw rfl)) (fun _ q => q) ?_ hd (pm_G_same G L Rr)
        rw [pm_fs_at hkn]
        simp [hft]
      · cases hs
    · rename_i hft
      split at hs
      · rename_i ho
        obtain rfl := pm_n_inv hs
        obtain ⟨rs, hc⟩ := pm_isO_inv ho
        refine va_get (D := D) (ci := ci) (v := .int (h.2.1 a k)) (C := pm_C ci) (T := pm_T ci) (N := pm_nf ci) hx hb hts (pm_in ci hci) hown hK Rr.1 a (pm_ws_get hc) (pm_cl8_at ci hci) k hkn (hts _ (pm_has_g hw rfl)) (fun _ q => q) ?_ hd (pm_G_same G L Rr)
        rw [pm_fs_at hkn]
        simp [hft]
      · cases hs
  · cases hs
theorem pm_pf_sim {x ci k pl : Nat} (F : pm_Fr p s args m' meth c m) (hd : decode (pm_b m) pc = .ok (.putfield x, 3)) (hk : pm_lnk m (.putfield x) (ci, k, pl) = true) (hK : va_K D pm_cl8 (pm_tys κ) s) (L : pm_LH α arr (pm_ml m) ls) (Rr : pm_Re D κ α A s h H locs) (hs : pm_pf ci k pc ls st h = some (.inl s')) (G : pm_G p l e R s m' args below meth c D κ A Q m α cells slots h s') : W p l e R s m' args below meth c H locs cells slots Q (F0 m' pc arr (st.map (pm_mv α))) := by
  obtain ⟨hx, hb, hml, hown, hts, hlo, hr, hnm⟩ := F
  simp only [pm_lnk, Bool.and_eq_true, decide_eq_true_eq] at hk
  obtain ⟨⟨⟨hci, hkn⟩, hw⟩, hfin⟩ := hk
  obtain ⟨y0, y1, y2, -⟩ := pm_fy ci hci k hkn
  -- the row, for a value that fits
  have put : ∀ (v : Value) (a : Nat) (rs : List (Option Nat)) (r : List Value), h.1[a]? = some (0, ci, rs) → narrow (pm_Y ci k) v = v → fits (pm_Y ci k) v = true → (∀ (H1 : Heap) (locs1 : List Loc), va_P D pm_cl8 ((pm_ws κ α h).set a (α a, .inr (ci, ((List.range (pm_nf ci)).map (fun k => if pm_ft ci k = 2 then pm_mv α (pm_rf (rs.getD k none)) else .int (h.2.1 a k))).set k v))) H1 → va_D A ((pm_ws κ α h).set a (α a, .inr (ci, ((List.range (pm_nf ci)).map (fun k => if pm_ft ci k = 2 then pm_mv α (pm_rf (rs.getD k none)) else .int (h.2.1 a k))).set k v))) → va_S A s.heap H1 locs1 → W p l e R s m' args below meth c H1 locs1 cells slots Q (F0 m' (pc + 3) arr r)) → W p l e R s m' args below meth c H locs cells slots Q (F0 m' pc arr (v :: .ref (α a) :: r)) := by
    intro v a rs r hc hn hf kk
    cases hq : (pm_T ci k).2.2.2 with
    | false => exact va_put (D := D) (ci := ci) (ty := pm_Y ci k) (C := pm_C ci) (T := pm_T ci) (N := pm_nf ci) hx hb hts (pm_in ci hci) (pm_Y ci) (pm_ty ci hci) (pm_nm ci hci) hown hK Rr.1 Rr.2.1 Rr.2.2 a (pm_ws_get hc) (pm_cl8_at ci hci) k hkn (hts _ (pm_has_g hw rfl)) (fun _ q => q) hq (pm_ty ci hci k hkn) hn hf (by simpa using hkn) hd kk
    | true => exact va_putF (D := D) (ci := ci) (ty := pm_Y ci k) (C := pm_C ci) (T := pm_T ci) (N := pm_nf ci) hx hb hts (pm_in ci hci) (pm_Y ci) (pm_ty ci hci) (pm_nm ci hci) hown hK Rr.1 Rr.2.1 Rr.2.2 a (pm_ws_get hc) (pm_cl8_at ci hci) k hkn (hts _ (pm_has_g hw rfl)) (fun _ q => q) hq (hnm (hfin hq).1) (hfin hq).2 (pm_ty ci hci k hkn) hn hf (by simpa using hkn) hd kk
  unfold pm_pf at hs
  split at hs
  · rename_i xv a r
    split at hs
    · rename_i hq
      obtain ⟨ho, hft⟩ := hq
      obtain rfl := pm_n_inv hs
      obtain ⟨rs, hc⟩ := pm_isO_inv ho
      have hft2 : ¬ pm_ft ci k = 2 := by omega
      have e : pm_cell κ α (pm_w h.2.1 a k xv a) (h.2.2 a) (0, ci, rs) = .inr (ci, ((List.range (pm_nf ci)).map (fun k => if pm_ft ci k = 2 then pm_mv α (pm_rf (rs.getD k none)) else .int (h.2.1 a k))).set k (.int xv)) := by
        show (Sum.inr _ : va_E) = _
        rw [pm_w_at, pm_fs_set (F' := fun j => if pm_ft ci j = 2 then pm_mv α (pm_rf (rs.getD j none)) else .int (upd (h.2.1 a) k xv j))]
        · intro j hj
          simp [upd, hj]
        · simp [hft2, upd]
      refine put (.int xv) a rs _ hc ?_ ?_ (fun H1 locs1 hP hD hS => ?_)
      · rcases hft with q | ⟨q, hz⟩
        · rw [y0 q]; rfl
        · rw [y1 q]; rcases hz with rfl | rfl <;> rfl
      · rcases hft with q | ⟨q, hz⟩
        · rw [y0 q]; rfl
        · rw [y1 q]; rcases hz with rfl | rfl <;> rfl
      · rw [← e, pm_ws_setI hc (pm_w_ne _ _ _ _) (fun _ _ => rfl)] at hP hD
        exact pm_G_heap G rfl rfl L ⟨hP, hD, hS⟩
    · cases hs
  · rename_i b a r
    split at hs
    · rename_i hq
      obtain ⟨ho, hft⟩ := hq
      split at hs
      · rename_i t cc rs hc
        split at hs
        · rename_i hkl
          obtain rfl := pm_n_inv hs
          obtain ⟨rs2, hc2⟩ := pm_isO_inv ho
          rw [hc] at hc2
          cases hc2
          have e : pm_cell κ α (h.2.1 a) (h.2.2 a) (0, ci, rs.set k (some b)) = .inr (ci, ((List.range (pm_nf ci)).map (fun k => if pm_ft ci k = 2 then pm_mv α (pm_rf (rs.getD k none)) else .int (h.2.1 a k))).set k (.ref (α b))) := by
            show (Sum.inr _ : va_E) = _
            rw [pm_fs_set (F' := fun j => if pm_ft ci j = 2 then pm_mv α (pm_rf ((rs.set k (some b)).getD j none)) else .int (h.2.1 a j))]
            · intro j hj
              have hj2 : ¬ k = j := fun z => hj z.symm
              simp [List.getD_eq_getElem?_getD, List.getElem?_set, hj2]
            · simp [hft, List.getD_eq_getElem?_getD, hkl, pm_rf, pm_mv]
          refine put (.ref (α b)) a rs _ hc (y2 hft |>.2 _ |>.1) (y2 hft |>.2 _ |>.2) (fun H1 locs1 hP hD hS => ?_)
          rw [← e] at hP hD
          have e2 := pm_ws_set (κ := κ) (α := α) (S := h.1) (I := h.2.1) (I' := h.2.1) (J := h.2.2) (J' := h.2.2) (a := a) (c' := (0, ci, rs.set k (some b))) (fun _ _ => rfl) (fun _ _ => rfl)
          rw [show pm_ws κ α h = pm_ws κ α (h.1, h.2.1, h.2.2) from rfl, e2] at hP hD
          exact pm_G_heap G (by simp) (pm_sz_set hc) L ⟨hP, hD, hS⟩
        · cases hs
      · cases hs
    · cases hs
  · cases hs
theorem pm_bad_in {i : Int32} {n : Nat} (h : pm_bad i n = false) : vp_in i n := by
  unfold pm_bad at h
  exact of_decide_eq_false h
theorem pm_okw_inv {S : List pm_S} {t a : Nat} {i : Int32} (h : pm_okw S t a i = true) : ∃ n rs, S[a]? = some (t, n, rs) ∧ vp_in i n := by
  unfold pm_okw at h
  split at h
  · rename_i t' n rs hc
    simp only [Bool.and_eq_true, beq_iff_eq, Bool.not_eq_true'] at h
    exact ⟨n, rs, by rw [hc, h.1], pm_bad_in h.2⟩
  · cases h
theorem pm_iast_sim {x i : Int32} {a : Nat} {r : List Value} (F : pm_Fr p s args m' meth c m) (hd : decode (pm_b m) pc = .ok (.iastore, 1)) (hK : va_K D pm_cl8 (pm_tys κ) s) (L : pm_LH α arr (pm_ml m) ls) (Rr : pm_Re D κ α A s h H locs) (ho : pm_okw h.1 1 a i = true) (G : pm_G p l e R s m' args below meth c D κ A Q m α cells slots h (pc + 1, ls, r, (h.1, pm_w h.2.1 a i.toNatClampNeg x, h.2.2))) : W p l e R s m' args below meth c H locs cells slots Q (F0 m' pc arr ((.int x :: .int i :: .ref a :: r : List Value).map (pm_mv α))) := by
  obtain ⟨hx, hb, -⟩ := F
  obtain ⟨n, rs, hc, hin⟩ := pm_okw_inv ho
  refine va_iast hx hb hK Rr.1 Rr.2.1 Rr.2.2 a 0 (pm_ws_get hc) rfl hin hd (fun H1 locs1 hP hD hS => ?_)
  have e : (.inl (κ 1, n, .inl (upd (h.2.1 a) i.toNatClampNeg x)) : va_E) = pm_cell κ α (pm_w h.2.1 a i.toNatClampNeg x a) (h.2.2 a) (1, n, rs) := by rw [pm_w_at]; rfl
  rw [e, pm_ws_setI hc (pm_w_ne _ _ _ _) (fun _ _ => rfl)] at hP hD
  exact pm_G_heap G rfl rfl L ⟨hP, hD, hS⟩
theorem pm_bast_sim {x i : Int32} {a : Nat} {r : List Value} (F : pm_Fr p s args m' meth c m) (hd : decode (pm_b m) pc = .ok (.bastore, 1)) (hK : va_K D pm_cl8 (pm_tys κ) s) (L : pm_LH α arr (pm_ml m) ls) (Rr : pm_Re D κ α A s h H locs) (ho : pm_okw h.1 2 a i = true) (G : pm_G p l e R s m' args below meth c D κ A Q m α cells slots h (pc + 1, ls, r, (h.1, pm_w h.2.1 a i.toNatClampNeg (vp_nar .byte x), h.2.2))) : W p l e R s m' args below meth c H locs cells slots Q (F0 m' pc arr ((.int x :: .int i :: .ref a :: r : List Value).map (pm_mv α))) := by
  obtain ⟨hx, hb, -⟩ := F
  obtain ⟨n, rs, hc, hin⟩ := pm_okw_inv ho
  refine va_bast hx hb hK Rr.1 Rr.2.1 Rr.2.2 a 1 (pm_ws_get hc) rfl hin hd (fun H1 locs1 hP hD hS => ?_)
  have e : (.inl (κ 2, n, .inl (upd (h.2.1 a) i.toNatClampNeg (vp_nar .byte x))) : va_E) = pm_cell κ α (pm_w h.2.1 a i.toNatClampNeg (vp_nar .byte x) a) (h.2.2 a) (2, n, rs) := by rw [pm_w_at]; rfl
  rw [e, pm_ws_setI hc (pm_w_ne _ _ _ _) (fun _ _ => rfl)] at hP hD
  exact pm_G_heap G rfl rfl L ⟨hP, hD, hS⟩
theorem pm_zast_sim {x i : Int32} {a : Nat} {r : List Value} (F : pm_Fr p s args m' meth c m) (hd : decode (pm_b m) pc = .ok (.bastore, 1)) (hK : va_K D pm_cl8 (pm_tys κ) s) (L : pm_LH α arr (pm_ml m) ls) (Rr : pm_Re D κ α A s h H locs) (ho : pm_okw h.1 3 a i = true) (G : pm_G p l e R s m' args below meth c D κ A Q m α cells slots h (pc + 1, ls, r, (h.1, pm_w h.2.1 a i.toNatClampNeg (vp_nar .boolean x), h.2.2))) : W p l e R s m' args below meth c H locs cells slots Q (F0 m' pc arr ((.int x :: .int i :: .ref a :: r : List Value).map (pm_mv α))) := by
  obtain ⟨hx, hb, -⟩ := F
  obtain ⟨n, rs, hc, hin⟩ := pm_okw_inv ho
  refine va_zast hx hb hK Rr.1 Rr.2.1 Rr.2.2 a 2 (pm_ws_get hc) rfl hin hd (fun H1 locs1 hP hD hS => ?_)
  have e : (.inl (κ 3, n, .inl (upd (h.2.1 a) i.toNatClampNeg (vp_nar .boolean x))) : va_E) = pm_cell κ α (pm_w h.2.1 a i.toNatClampNeg (vp_nar .boolean x) a) (h.2.2 a) (3, n, rs) := by rw [pm_w_at]; rfl
  rw [e, pm_ws_setI hc (pm_w_ne _ _ _ _) (fun _ _ => rfl)] at hP hD
  exact pm_G_heap G rfl rfl L ⟨hP, hD, hS⟩
theorem pm_last_sim {x : Int64} {i : Int32} {a : Nat} {r : List Value} (F : pm_Fr p s args m' meth c m) (hd : decode (pm_b m) pc = .ok (.lastore, 1)) (hK : va_K D pm_cl8 (pm_tys κ) s) (L : pm_LH α arr (pm_ml m) ls) (Rr : pm_Re D κ α A s h H locs) (ho : pm_okw h.1 4 a i = true) (G : pm_G p l e R s m' args below meth c D κ A Q m α cells slots h (pc + 1, ls, r, (h.1, h.2.1, pm_wJ h.2.2 a i.toNatClampNeg x))) : W p l e R s m' args below meth c H locs cells slots Q (F0 m' pc arr ((.long x :: .int i :: .ref a :: r : List Value).map (pm_mv α))) := by
  obtain ⟨hx, hb, -⟩ := F
  obtain ⟨n, rs, hc, hin⟩ := pm_okw_inv ho
  refine va_last hx hb hK Rr.1 Rr.2.1 Rr.2.2 a 3 (pm_ws_get hc) rfl hin hd (fun H1 locs1 hP hD hS => ?_)
  have e : (.inl (κ 4, n, .inr (.inl (vp_updL (h.2.2 a) i.toNatClampNeg x))) : va_E) = pm_cell κ α (h.2.1 a) (pm_wJ h.2.2 a i.toNatClampNeg x a) (4, n, rs) := by rw [pm_wJ_at]; rfl
  rw [e, pm_ws_setI hc (fun _ _ => rfl) (pm_wJ_ne _ _ _ _)] at hP hD
  exact pm_G_heap G rfl rfl L ⟨hP, hD, hS⟩
end PMH
