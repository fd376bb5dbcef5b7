/-! arraycopy, Math, rows of references, constants -/
section PMJ
variable {X : pm_X} {p : Program} {l : Launch} {e : Env} {R : Room} {s : State} {m' : MethodId} {args : Array Value} {below : List Frame} {meth : Method} {c : Code} {D : va_G} {κ : Nat → ClassId} {A : Nat → Prop} {Q : State → Prop} {m : Nat}
variable {α : Nat → Nat} {arr : Array Slot} {H : Heap} {locs : List Loc} {cells slots pc pc' d : Nat} {h h' : pm_H} {ls ls' : List (Option Value)} {st st' : List Value} {s' : pm_St}
theorem pm_smc_mv (st : List Value) : ((st.map (pm_mv α)).map fun v => v.category).sum = pm_smc st := by
  unfold pm_smc
  rw [List.map_map]
  congr 2
  funext v
  exact pm_mv_cat v
theorem pm_nq_sim {x k pl z : Nat} (F : pm_Fr p s args m' meth c m) (O : pm_OF X α A s s.heap) (hA : ∀ q, s.heap.size ≤ q → A q) (hd : decode (pm_b m) pc = .ok (.anewarray x, 3)) (hk : pm_lnk m (.anewarray x) (k, pl, z) = true) (hK : va_K D pm_cl8 (pm_tys κ) s) (L : pm_LH α arr (pm_ml m) ls) (Rr : pm_Re D κ α A s h H locs) (hs : pm_nq k pc ls st h = some (.inl s')) (hrc : cells + s'.2.2.2.1.length ≤ R.cells + h.1.length) (hrs : slots + pm_sz s'.2.2.2.1 ≤ R.slots + pm_sz h.1) (G : pm_G p l e R s m' args below meth c D κ A Q m α cells slots h s') : W p l e R s m' args below meth c H locs cells slots Q (F0 m' pc arr (st.map (pm_mv α))) := by
  obtain ⟨hx, hb, hml, hown, hts, hlo, hr, hnm⟩ := F
  obtain ⟨-, -, -, -, ⟨o4, o3⟩, -⟩ := O
  unfold pm_nq at hs
  split at hs
  · rename_i n r
    split at hs
    · cases hs
    · rename_i hn
      obtain ⟨w1, w2, w3, rfl⟩ := pm_nw_inv hs
      have hrc' : cells + 1 ≤ R.cells := by simp at hrc; omega
      have hn1 : ¬ n < 0 := fun z => hn (Or.inl z)
      have hn2 : n.toNatClampNeg ≤ 10000 := by
        rcases Nat.lt_or_ge 10000 n.toNatClampNeg with z | z
        · exact absurd (Or.inr z) hn
        · exact z
      have hf : ∀ α' : Nat → Nat, (fun i => ((List.replicate n.toNatClampNeg (none : Option Nat)).getD i none).map α') = fun _ => none := by
        intro α'
        funext i
        rw [List.getD_eq_getElem?_getD, List.getElem?_replicate]
        split <;> rfl
      have hsz : pm_sz (h.1 ++ [(k, n.toNatClampNeg, List.replicate n.toNatClampNeg none)]) = pm_sz h.1 + pm_cs (k, n.toNatClampNeg, List.replicate n.toNatClampNeg none) := pm_sz_app _ _
      simp only [pm_lnk] at hk
      split at hk
      · have hrs' : slots + n.toNatClampNeg ≤ R.slots := by
          simp only at hrs
          simp only [pm_cs] at hsz
          omega
        refine va_newq hx hb hown (hts _ (pm_has_g hk rfl)) o4 hK Rr.1 Rr.2.1 Rr.2.2 hA hn1 rfl (by omega) hrc' hrs' hd (fun q cA H1 hK2 hP hD hS => ?_)
        obtain rfl := pm_cA_eq (t0 := 4) (cB := κ 5) hK rfl hK2
        exact pm_G_new G L (by simpa [pm_wfs] using w1) w2 w3 (fun α' => by show (Sum.inl _ : va_E) = _; rw [hf]) rfl hP hD hS
      · have hrs' : slots + n.toNatClampNeg ≤ R.slots := by
          simp only at hrs
          simp only [pm_cs] at hsz
          omega
        refine va_newq hx hb hown (hts _ (pm_has_g hk rfl)) o3 hK Rr.1 Rr.2.1 Rr.2.2 hA hn1 rfl (by omega) hrc' hrs' hd (fun q cA H1 hK2 hP hD hS => ?_)
        obtain rfl := pm_cA_eq (t0 := 5) (cB := κ 6) hK rfl hK2
        exact pm_G_new G L (by simpa [pm_wfs] using w1) w2 w3 (fun α' => by show (Sum.inl _ : va_E) = _; rw [hf]) rfl hP hD hS
      · cases hk
  · cases hs
theorem pm_cpo_inv {S : List pm_S} {t a b : Nat} {sp dp n : Int32} (h : pm_cpo S t a sp b dp n = true) : ∃ n1 r1 n2 r2, S[a]? = some (t, n1, r1) ∧ S[b]? = some (t, n2, r2) ∧ ¬ sp < 0 ∧ ¬ dp < 0 ∧ ¬ n < 0 ∧ sp.toNatClampNeg + n.toNatClampNeg ≤ n1 ∧ dp.toNatClampNeg + n.toNatClampNeg ≤ n2 := by
  unfold pm_cpo at h
  split at h
  · rename_i t1 n1 r1 t2 n2 r2 h1 h2
    simp only [Bool.and_eq_true, beq_iff_eq, Bool.not_eq_true', Bool.or_eq_false_iff, decide_eq_false_iff_not, decide_eq_true_eq] at h
    obtain ⟨⟨⟨⟨rfl, rfl⟩, ⟨a1, a2⟩, a3⟩, a4⟩, a5⟩ := h
    exact ⟨n1, r1, n2, r2, h1, h2, a1, a2, a3, a4, a5⟩
  · cases h
theorem pm_cp_sim {x : Nat} (F : pm_Fr p s args m' meth c m) (hfr : d ≤ R.frames ∧ 64 * d ≤ R.locals) (hd : decode (pm_b m) pc = .ok (.invokestatic x, 3)) (hw : Cond.methodLink (pm_own m) x arraycopyName ∈ lw_g) (hK : va_K D pm_cl8 (pm_tys κ) s) (L : pm_LH α arr (pm_ml m) ls) (Rr : pm_Re D κ α A s h H locs) (hs : pm_cp pc d ls st h = some (.inl s')) (G : pm_G p l e R s m' args below meth c D κ A Q m α cells slots h s') : W p l e R s m' args below meth c H locs cells slots Q (F0 m' pc arr (st.map (pm_mv α))) := by
  obtain ⟨hx, hb, hml, hown, hts, hlo, hr, hnm⟩ := F
  have hml2 : c.maxLocals = arr.size := by
    obtain ⟨_, lv, hl, _⟩ := L
    rw [hml, hl.1]
  have hnf : nativeFrameWords "java/lang/System" "arraycopy" 5 = 7 := by decide +kernel
  unfold pm_cp at hs
  split at hs
  · rename_i n dp b sp a r
    split at hs
    · rename_i hq
      have hloc : ((r.map (pm_mv α)).map fun v => v.category).sum + (nativeFrameWords "java/lang/System" "arraycopy" 5 + 11) ≤ R.locals := by
        rw [pm_smc_mv, hnf]
        omega
      split at hs
      · rename_i hc
        obtain rfl := pm_n_inv hs
        obtain ⟨n1, r1, n2, r2, c1, c2, h1, h2, h3, h4, h5⟩ := pm_cpo_inv hc
        refine va_copyi hx hb hml2 hown (hts _ hw) (hts _ pm_w_cpn) (hts _ pm_w_cps) (hts _ pm_w_sys) hK Rr.1 Rr.2.1 Rr.2.2 a b 0 0 (pm_ws_get c1) (pm_ws_get c2) rfl rfl rfl h1 h2 h3 h4 h5 (fun _ _ => rfl) (by omega) hloc hd (fun H1 locs1 hP hD hS => ?_)
        have e : (.inl (κ 1, n2, .inl (va_cpy (h.2.1 a) (h.2.1 b) sp.toNatClampNeg dp.toNatClampNeg n.toNatClampNeg)) : va_E) = pm_cell κ α (pm_up h.2.1 b (va_cpy (h.2.1 a) (h.2.1 b) sp.toNatClampNeg dp.toNatClampNeg n.toNatClampNeg) b) (h.2.2 b) (1, n2, r2) := by simp [pm_cell, pm_up]
        rw [e, pm_ws_setI c2 (fun i hi => by simp [pm_up, hi]) (fun _ _ => rfl)] at hP hD
        exact pm_G_heap G rfl rfl L ⟨hP, hD, hS⟩
      · split at hs
        · rename_i hc
          obtain rfl := pm_n_inv hs
          obtain ⟨n1, r1, n2, r2, c1, c2, h1, h2, h3, h4, h5⟩ := pm_cpo_inv hc
          refine va_copyl hx hb hml2 hown (hts _ hw) (hts _ pm_w_cpn) (hts _ pm_w_cps) (hts _ pm_w_sys) hK Rr.1 Rr.2.1 Rr.2.2 a b 3 3 (pm_ws_get c1) (pm_ws_get c2) rfl rfl rfl h1 h2 h3 h4 h5 (fun _ _ => rfl) (by omega) hloc hd (fun H1 locs1 hP hD hS => ?_)
          have e : (.inl (κ 4, n2, .inr (.inl (va_cpy (h.2.2 a) (h.2.2 b) sp.toNatClampNeg dp.toNatClampNeg n.toNatClampNeg))) : va_E) = pm_cell κ α (h.2.1 b) (pm_upJ h.2.2 b (va_cpy (h.2.2 a) (h.2.2 b) sp.toNatClampNeg dp.toNatClampNeg n.toNatClampNeg) b) (4, n2, r2) := by simp [pm_cell, pm_upJ]
          rw [e, pm_ws_setI c2 (fun _ _ => rfl) (fun i hi => by simp [pm_upJ, hi])] at hP hD
          exact pm_G_heap G rfl rfl L ⟨hP, hD, hS⟩
        · cases hs
    · cases hs
  · cases hs
theorem pm_gs_sim {x j pl z : Nat} (F : pm_Fr p s args m' meth c m) (O : pm_OF X α A s s.heap) (hd : decode (pm_b m) pc = .ok (.getstatic x, 3)) (hk : pm_lnk m (.getstatic x) (j, pl, z) = true) (L : pm_LH α arr (pm_ml m) ls) (Rr : pm_Re D κ α A s h H locs) (G : pm_G p l e R s m' args below meth c D κ A Q m α cells slots h (pc + 3, ls, pm_gs X j :: st, h)) : W p l e R s m' args below meth c H locs cells slots Q (F0 m' pc arr (st.map (pm_mv α))) := by
  obtain ⟨hx, hb, hml, hown, hts, hlo, hr, hnm⟩ := F
  obtain ⟨-, ⟨b1, b2⟩, ⟨c1, c2⟩, ⟨-, -, d3, d4⟩, -, n1, -⟩ := O
  simp only [pm_lnk] at hk
  split at hk
  · exact va_gets hx hb b1 Rr.2.2 hown (hts _ (pm_has_g hk rfl)) (fun _ q => q) hd (pm_G_same G L Rr)
  · obtain ⟨e1, rfl⟩ := of_decide_eq_true hk
    rw [e1] at hown
    exact va_getsN hx hb b1 Rr.2.2 hown (va_Nw.use rfl n1) (fun _ q => q) hd (pm_G_same G L Rr)
  · exact va_gets hx hb c1 Rr.2.2 hown (hts _ (pm_has_g hk rfl)) (fun _ q => q) hd (pm_G_same G L Rr)
  · exact va_gets hx hb d3 Rr.2.2 hown (hts _ (pm_has_g hk rfl)) (fun _ q => q) hd (pm_G_same G L Rr)
  · exact va_gets hx hb d4 Rr.2.2 hown (hts _ (pm_has_g hk rfl)) (fun _ q => q) hd (pm_G_same G L Rr)
  · cases hk
theorem pm_ldc_sim {x j v pl : Nat} (F : pm_Fr p s args m' meth c m) (O : pm_OF X α A s s.heap) (hd : decode (pm_b m) pc = .ok (.ldc x, 2)) (hk : pm_lnk m (.ldc x) (j, v, pl) = true) (L : pm_LH α arr (pm_ml m) ls) (Rr : pm_Re D κ α A s h H locs) (hs : (if j = 0 then pm_n (pc + 2) ls (.int (Int32.ofNat v) :: st) h else pm_n (pc + 2) ls (.ref (1000010 + v) :: st) h) = some (.inl s')) (G : pm_G p l e R s m' args below meth c D κ A Q m α cells slots h s') : W p l e R s m' args below meth c H locs cells slots Q (F0 m' pc arr (st.map (pm_mv α))) := by
  obtain ⟨hx, hb, hml, hown, hts, hlo, hr, hnm⟩ := F
  obtain ⟨-, -, -, ⟨d1, -⟩, -⟩ := O
  split at hs
  · rename_i e0
    subst e0
    obtain rfl := pm_n_inv hs
    exact lv_ldc hx hb hown (hts _ (pm_has_g hk rfl)) hd (pm_G_same G L Rr)
  · rename_i e0
    obtain rfl := pm_n_inv hs
    obtain ⟨j, rfl⟩ : ∃ k, j = k + 1 := ⟨j - 1, by omega⟩
    obtain ⟨e1, e2, rfl⟩ := of_decide_eq_true hk
    rw [e1] at hown
    exact va_ldcS hx hb hown (d1 v e2) hd (pm_G_same G L Rr)
end PMJ
