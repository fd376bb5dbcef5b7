/-! A STEP, by cases (printed by wip/whole/gen_step.py) -/
section PMK
variable {X : pm_X} {p : Program} {l : Launch} {e : Env} {R : Room} {s : State} {m' : MethodId} {args : Array Value} {below : List Frame} {meth : Method} {c : Code} {D : va_G} {κ : Nat → ClassId} {A : Nat → Prop} {Q : State → Prop} {m : Nat}
variable {α : Nat → Nat} {arr : Array Slot} {H : Heap} {locs : List Loc} {cells slots pc pc' d : Nat} {h h' : pm_H} {ls ls' : List (Option Value)} {st st' : List Value} {s' : pm_St}
def pm_le (h h' : pm_H) : Prop := h.1.length ≤ h'.1.length ∧ pm_sz h.1 ≤ pm_sz h'.1
theorem pm_n_le {z : List (Option Value)} (hs : pm_n pc z st h' = some (.inl s')) (hl : pm_le h h') : pm_le h s'.2.2.2 := by
  obtain rfl := pm_n_inv hs
  exact hl
theorem pm_le_rf : pm_le h h := ⟨Nat.le_refl _, Nat.le_refl _⟩
theorem pm_cz_mono {cnd : ClassFile.Cond} {off : Int} (hs : pm_cz cnd off pc ls st h = some (.inl s')) : pm_le h s'.2.2.2 := by
  unfold pm_cz at hs
  split at hs
  · split at hs
    · cases cnd <;> dsimp only at hs <;> split at hs <;> exact pm_n_le hs pm_le_rf
    · cases hs
  · cases hs
theorem pm_cm_mono {cnd : ClassFile.Cond} {off : Int} (hs : pm_cm cnd off pc ls st h = some (.inl s')) : pm_le h s'.2.2.2 := by
  unfold pm_cm at hs
  split at hs
  · split at hs
    · cases cnd <;> dsimp only at hs <;> split at hs <;> exact pm_n_le hs pm_le_rf
    · cases hs
  · cases hs
theorem pm_g_le {off : Int} (hs : pm_g pc off ls st h = some (.inl s')) : pm_le h s'.2.2.2 := by
  obtain ⟨_, rfl⟩ := pm_g_inv hs
  exact pm_le_rf
theorem pm_ts_mono {dd lo hi : Int} {offs : Array Int} (hs : pm_ts dd lo hi offs pc ls st h = some (.inl s')) : pm_le h s'.2.2.2 := by
  unfold pm_ts at hs
  split at hs
  · split at hs
    · exact pm_g_le hs
    · split at hs
      · exact pm_g_le hs
      · cases hs
  · cases hs
theorem pm_lk_mono {dd : Int} {ps : Array (Int × Int)} (hs : pm_lk dd ps pc ls st h = some (.inl s')) : pm_le h s'.2.2.2 := by
  unfold pm_lk at hs
  split at hs
  · exact pm_g_le hs
  · cases hs
theorem pm_gf_mono {ci k : Nat} (hs : pm_gf ci k pc ls st h = some (.inl s')) : pm_le h s'.2.2.2 := by
  unfold pm_gf at hs
  split at hs
  · split at hs
    · split at hs
      · exact pm_n_le hs pm_le_rf
      · cases hs
    · split at hs
      · split at hs
        · exact pm_n_le hs pm_le_rf
        · cases hs
      · split at hs
        · exact pm_n_le hs pm_le_rf
        · cases hs
  · cases hs
theorem pm_pf_mono {ci k : Nat} (hs : pm_pf ci k pc ls st h = some (.inl s')) : pm_le h s'.2.2.2 := by
  unfold pm_pf at hs
  split at hs
  · split at hs
    · exact pm_n_le hs ⟨Nat.le_refl _, Nat.le_refl _⟩
    · cases hs
  · split at hs
    · split at hs
      · rename_i hc
        split at hs
        · exact pm_n_le hs ⟨by simp, Nat.le_of_eq (pm_sz_set hc).symm⟩
        · cases hs
      · cases hs
    · cases hs
  · cases hs
theorem pm_nw_mono {t n : Nat} {rs : List (Option Nat)} (hs : pm_nw t n rs pc ls st h = some (.inl s')) : pm_le h s'.2.2.2 := by
  obtain ⟨_, _, _, rfl⟩ := pm_nw_inv hs
  exact ⟨by simp, by show pm_sz h.1 ≤ pm_sz (h.1 ++ [(t, n, rs)]); rw [pm_sz_app]; omega⟩
theorem pm_na_mono {t : ArrayType} (hs : pm_na t pc ls st h = some (.inl s')) : pm_le h s'.2.2.2 := by
  unfold pm_na at hs
  split at hs
  · split at hs
    · split at hs
      · cases hs
      · exact pm_nw_mono hs
    · cases hs
  · cases hs
theorem pm_nq_mono {k : Nat} (hs : pm_nq k pc ls st h = some (.inl s')) : pm_le h s'.2.2.2 := by
  unfold pm_nq at hs
  split at hs
  · split at hs
    · cases hs
    · exact pm_nw_mono hs
  · cases hs
theorem pm_inv_ne {mj k : Nat} (hs : pm_inv mj k pc st = some (.inl s')) : False := by
  unfold pm_inv at hs
  split at hs <;> cases hs
theorem pm_ret_ne (hs : pm_ret m st h = some (.inl s')) : False := by
  unfold pm_ret at hs
  split at hs
  · split at hs <;> cases hs
  · cases hs
theorem pm_retL_ne (hs : pm_retL m st h = some (.inl s')) : False := by
  unfold pm_retL at hs
  split at hs
  · split at hs <;> cases hs
  · cases hs
theorem pm_retA_ne (hs : pm_retA m st h = some (.inl s')) : False := by
  unfold pm_retA at hs
  split at hs
  · split at hs <;> cases hs
  · cases hs
theorem pm_retV_ne (hs : pm_retV m st h = some (.inl s')) : False := by
  unfold pm_retV at hs
  split at hs
  · split at hs <;> cases hs
  · cases hs
theorem pm_iv_mono {r : Nat × Nat × Nat} (hs : pm_iv r pc d ls st h = some (.inl s')) : pm_le h s'.2.2.2 := by
  unfold pm_iv at hs
  split at hs
  · split at hs
    · exact (pm_inv_ne hs).elim
    · cases hs
  · cases hs
theorem pm_cp_mono (hs : pm_cp pc d ls st h = some (.inl s')) : pm_le h s'.2.2.2 := by
  unfold pm_cp at hs
  split at hs
  · split at hs
    · split at hs
      · exact pm_n_le hs ⟨Nat.le_refl _, Nat.le_refl _⟩
      · split at hs
        · exact pm_n_le hs ⟨Nat.le_refl _, Nat.le_refl _⟩
        · cases hs
    · cases hs
  · cases hs
theorem pm_is_mono {r : Nat × Nat × Nat} (hs : pm_is r pc d ls st h = some (.inl s')) : pm_le h s'.2.2.2 := by
  unfold pm_is at hs
  split at hs
  · exact (pm_inv_ne hs).elim
  · split at hs
    · split at hs
      · exact pm_n_le hs pm_le_rf
      · cases hs
    · cases hs
  · split at hs
    · split at hs
      · exact pm_n_le hs pm_le_rf
      · cases hs
    · cases hs
  · split at hs
    · split at hs
      · exact pm_n_le hs pm_le_rf
      · cases hs
    · cases hs
  · exact pm_cp_mono hs
  · cases hs
theorem pm_ip_mono {r : Nat × Nat × Nat} (hs : pm_ip r pc d ls st h = some (.inl s')) : pm_le h s'.2.2.2 := by
  unfold pm_ip at hs
  split at hs
  · split at hs
    · exact (pm_inv_ne hs).elim
    · cases hs
  · split at hs
    · split at hs
      · exact pm_n_le hs pm_le_rf
      · cases hs
    · cases hs
  · cases hs
theorem pm_iv_no0 {r : Nat × Nat × Nat} (hs : pm_iv r pc d ls st h = some (.inl s')) : False := by
  unfold pm_iv at hs
  split at hs
  · split at hs
    · exact pm_inv_ne hs
    · cases hs
  · cases hs
theorem pm_is_sim {x : Nat} {r : Nat × Nat × Nat} (F : pm_Fr p s args m' meth c m) (hfr : d ≤ R.frames ∧ 64 * d ≤ R.locals) (hc0 : cells ≤ R.cells) (hs0 : slots ≤ R.slots) (hd : decode (pm_b m) pc = .ok (.invokestatic x, 3)) (hk : pm_lnk m (.invokestatic x) r = true) (hK : va_K D pm_cl8 (pm_tys κ) s) (L : pm_LH α arr (pm_ml m) ls) (Rr : pm_Re D κ α A s h H locs) (hs : pm_is r pc d ls st h = some (.inl s')) (G : pm_G p l e R s m' args below meth c D κ A Q m α cells slots h s') : W p l e R s m' args below meth c H locs cells slots Q (F0 m' pc arr (st.map (pm_mv α))) := by
  obtain ⟨r0, r1, r2⟩ := r
  have hsz : arr.size = pm_ml m := by
    obtain ⟨_, lv, hl, _⟩ := L
    exact hl.1
  have F' := F
  obtain ⟨hx, hb, hml, hown, hts, hlo, hr, hnm⟩ := F
  have hml2 : c.maxLocals = arr.size := by rw [hml, hsz]
  unfold pm_is at hs
  split at hs
  · exact (pm_inv_ne hs).elim
  · rename_i e0
    dsimp only at e0
    subst e0
    split at hs
    · split at hs
      · rename_i hq
        obtain rfl := pm_n_inv hs
        exact va_mmax hx hb hml2 hown (hts _ (pm_has_g hk rfl)) (hts _ pm_w_max) (hts _ pm_w_math) (hts _ pm_wc_max) (by omega) (by rw [pm_smc_mv]; omega) hc0 hs0 hd (pm_G_same G L Rr)
      · cases hs
    · cases hs
  · rename_i e0
    dsimp only at e0
    subst e0
    split at hs
    · split at hs
      · rename_i hq
        obtain rfl := pm_n_inv hs
        exact va_mmin hx hb hml2 hown (hts _ (pm_has_g hk rfl)) (hts _ pm_w_min) (hts _ pm_w_math) (hts _ pm_wc_min) (by omega) (by rw [pm_smc_mv]; omega) hc0 hs0 hd (pm_G_same G L Rr)
      · cases hs
    · cases hs
  · rename_i e0
    dsimp only at e0
    subst e0
    split at hs
    · split at hs
      · rename_i hq
        obtain rfl := pm_n_inv hs
        exact va_mabs hx hb hml2 hown (hts _ (pm_has_g hk rfl)) (hts _ pm_w_abs) (hts _ pm_w_math) (hts _ pm_wc_abs) (by omega) (by rw [pm_smc_mv]; omega) hc0 hs0 hd (pm_G_same G L Rr)
      · cases hs
    · cases hs
  · rename_i e0
    dsimp only at e0
    subst e0
    exact pm_cp_sim F' hfr hd (pm_has_g hk rfl) hK L Rr hs G
  · cases hs
theorem pm_ip_sim {x : Nat} {r : Nat × Nat × Nat} (F : pm_Fr p s args m' meth c m) (hfr : d ≤ R.frames ∧ 64 * d ≤ R.locals) (hd : decode (pm_b m) pc = .ok (.invokespecial x, 3)) (hk : pm_lnk m (.invokespecial x) r = true) (L : pm_LH α arr (pm_ml m) ls) (Rr : pm_Re D κ α A s h H locs) (hs : pm_ip r pc d ls st h = some (.inl s')) (G : pm_G p l e R s m' args below meth c D κ A Q m α cells slots h s') : W p l e R s m' args below meth c H locs cells slots Q (F0 m' pc arr (st.map (pm_mv α))) := by
  obtain ⟨r0, r1, r2⟩ := r
  have hsz : arr.size = pm_ml m := by
    obtain ⟨_, lv, hl, _⟩ := L
    exact hl.1
  obtain ⟨hx, hb, hml, hown, hts, hlo, hr, hnm⟩ := F
  unfold pm_ip at hs
  split at hs
  · split at hs
    · exact (pm_inv_ne hs).elim
    · cases hs
  · rename_i e0
    dsimp only at e0
    subst e0
    split at hs
    · split at hs
      · rename_i hq
        obtain rfl := pm_n_inv hs
        refine W.objInit hx hb hown (hts _ (pm_has_g hk rfl)) (hts _ pm_w_obi) (hts _ pm_w_obc) rfl (hsz.trans hml.symm) rfl hd (by omega) (by show 2 * 0 + 0 + 12 ≤ R.locals; omega) ?_
        exact W.eq (g2 := F0 m' (pc + 3) arr []) rfl (pm_G_same (st' := []) G L Rr)
      · cases hs
    · cases hs
  · cases hs
set_option maxHeartbeats 4000000 in
theorem pm_do_mono {i : Instr} {r : Nat × Nat × Nat} (hs : pm_do X d m i r pc ls st h = some (.inl s')) : pm_le h s'.2.2.2 := by
  obtain ⟨r0, r1, r2⟩ := r
  cases i with
  | iconst n =>
    obtain rfl := pm_n_inv hs
    exact ⟨Nat.le_refl _, Nat.le_refl _⟩
  | bipush n =>
    obtain rfl := pm_n_inv hs
    exact ⟨Nat.le_refl _, Nat.le_refl _⟩
  | sipush n =>
    obtain rfl := pm_n_inv hs
    exact ⟨Nat.le_refl _, Nat.le_refl _⟩
  | lconst n =>
    obtain rfl := pm_n_inv hs
    exact ⟨Nat.le_refl _, Nat.le_refl _⟩
  | ldc n =>
    replace hs : (if r0 = 0 then pm_n (pc + 2) ls (.int (Int32.ofNat r1) :: st) h else pm_n (pc + 2) ls (.ref (1000010 + r1) :: st) h) = some (.inl s') := hs
    split at hs <;> (obtain rfl := pm_n_inv hs; exact ⟨Nat.le_refl _, Nat.le_refl _⟩)
  | ldc_w n =>
    obtain rfl := pm_n_inv hs
    exact ⟨Nat.le_refl _, Nat.le_refl _⟩
  | ldc2_w n =>
    obtain rfl := pm_n_inv hs
    exact ⟨Nat.le_refl _, Nat.le_refl _⟩
  | iload k =>
    obtain ⟨x, hq, rfl⟩ := pm_ld_inv hs
    exact ⟨Nat.le_refl _, Nat.le_refl _⟩
  | iload_n k =>
    obtain ⟨x, hq, rfl⟩ := pm_ld_inv hs
    exact ⟨Nat.le_refl _, Nat.le_refl _⟩
  | lload k =>
    obtain ⟨x, hq, rfl⟩ := pm_ldL_inv hs
    exact ⟨Nat.le_refl _, Nat.le_refl _⟩
  | lload_n k =>
    obtain ⟨x, hq, rfl⟩ := pm_ldL_inv hs
    exact ⟨Nat.le_refl _, Nat.le_refl _⟩
  | aload k =>
    obtain ⟨x, hq, rfl⟩ := pm_ldA_inv hs
    exact ⟨Nat.le_refl _, Nat.le_refl _⟩
  | aload_n k =>
    obtain ⟨x, hq, rfl⟩ := pm_ldA_inv hs
    exact ⟨Nat.le_refl _, Nat.le_refl _⟩
  | istore k =>
    obtain ⟨x, q, rfl, hq, rfl⟩ := pm_st_inv hs
    exact ⟨Nat.le_refl _, Nat.le_refl _⟩
  | istore_n k =>
    obtain ⟨x, q, rfl, hq, rfl⟩ := pm_st_inv hs
    exact ⟨Nat.le_refl _, Nat.le_refl _⟩
  | lstore k =>
    obtain ⟨x, q, rfl, hq, rfl⟩ := pm_stJ_inv hs
    exact ⟨Nat.le_refl _, Nat.le_refl _⟩
  | lstore_n k =>
    obtain ⟨x, q, rfl, hq, rfl⟩ := pm_stJ_inv hs
    exact ⟨Nat.le_refl _, Nat.le_refl _⟩
  | astore k =>
    obtain ⟨x, q, rfl, hq, rfl⟩ := pm_stA_inv hs
    exact ⟨Nat.le_refl _, Nat.le_refl _⟩
  | astore_n k =>
    obtain ⟨x, q, rfl, hq, rfl⟩ := pm_stA_inv hs
    exact ⟨Nat.le_refl _, Nat.le_refl _⟩
  | iinc k n =>
    replace hs : (match ls[k]? with
          | some (some (.int x)) => pm_n (pc + 3) (pm_sto ls k (.int (x + Int32.ofInt n))) st h
          | _ => none) = some (.inl s') := hs
    split at hs
    · rename_i x hxk
      obtain rfl := pm_n_inv hs
      exact ⟨Nat.le_refl _, Nat.le_refl _⟩
    · cases hs
  | iadd =>
    obtain ⟨x, y, q, rfl, rfl⟩ := pm_i2_inv hs
    exact ⟨Nat.le_refl _, Nat.le_refl _⟩
  | isub =>
    obtain ⟨x, y, q, rfl, rfl⟩ := pm_i2_inv hs
    exact ⟨Nat.le_refl _, Nat.le_refl _⟩
  | imul =>
    obtain ⟨x, y, q, rfl, rfl⟩ := pm_i2_inv hs
    exact ⟨Nat.le_refl _, Nat.le_refl _⟩
  | iand =>
    obtain ⟨x, y, q, rfl, rfl⟩ := pm_i2_inv hs
    exact ⟨Nat.le_refl _, Nat.le_refl _⟩
  | ior =>
    obtain ⟨x, y, q, rfl, rfl⟩ := pm_i2_inv hs
    exact ⟨Nat.le_refl _, Nat.le_refl _⟩
  | ixor =>
    obtain ⟨x, y, q, rfl, rfl⟩ := pm_i2_inv hs
    exact ⟨Nat.le_refl _, Nat.le_refl _⟩
  | ishl =>
    obtain ⟨x, y, q, rfl, rfl⟩ := pm_i2_inv hs
    exact ⟨Nat.le_refl _, Nat.le_refl _⟩
  | ishr =>
    obtain ⟨x, y, q, rfl, rfl⟩ := pm_i2_inv hs
    exact ⟨Nat.le_refl _, Nat.le_refl _⟩
  | iushr =>
    obtain ⟨x, y, q, rfl, rfl⟩ := pm_i2_inv hs
    exact ⟨Nat.le_refl _, Nat.le_refl _⟩
  | idiv =>
    obtain ⟨x, y, q, rfl, hy, rfl⟩ := pm_d2_inv hs
    exact ⟨Nat.le_refl _, Nat.le_refl _⟩
  | irem =>
    obtain ⟨x, y, q, rfl, hy, rfl⟩ := pm_d2_inv hs
    exact ⟨Nat.le_refl _, Nat.le_refl _⟩
  | ineg =>
    obtain ⟨x, q, rfl, rfl⟩ := pm_i1_inv hs
    exact ⟨Nat.le_refl _, Nat.le_refl _⟩
  | i2l =>
    obtain ⟨x, q, rfl, rfl⟩ := pm_i1_inv hs
    exact ⟨Nat.le_refl _, Nat.le_refl _⟩
  | i2b =>
    obtain ⟨x, q, rfl, rfl⟩ := pm_i1_inv hs
    exact ⟨Nat.le_refl _, Nat.le_refl _⟩
  | i2s =>
    obtain ⟨x, q, rfl, rfl⟩ := pm_i1_inv hs
    exact ⟨Nat.le_refl _, Nat.le_refl _⟩
  | i2c =>
    obtain ⟨x, q, rfl, rfl⟩ := pm_i1_inv hs
    exact ⟨Nat.le_refl _, Nat.le_refl _⟩
  | l2i =>
    replace hs : (match st with
          | .long x :: r => pm_n (pc + 1) ls (.int x.toInt32 :: r) h
          | _ => none) = some (.inl s') := hs
    split at hs
    · obtain rfl := pm_n_inv hs
      exact ⟨Nat.le_refl _, Nat.le_refl _⟩
    · cases hs
  | ladd =>
    obtain ⟨x, y, q, rfl, rfl⟩ := pm_l2_inv hs
    exact ⟨Nat.le_refl _, Nat.le_refl _⟩
  | lmul =>
    obtain ⟨x, y, q, rfl, rfl⟩ := pm_l2_inv hs
    exact ⟨Nat.le_refl _, Nat.le_refl _⟩
  | land =>
    obtain ⟨x, y, q, rfl, rfl⟩ := pm_l2_inv hs
    exact ⟨Nat.le_refl _, Nat.le_refl _⟩
  | lor =>
    obtain ⟨x, y, q, rfl, rfl⟩ := pm_l2_inv hs
    exact ⟨Nat.le_refl _, Nat.le_refl _⟩
  | lcmp =>
    obtain ⟨x, y, q, rfl, rfl⟩ := pm_l2_inv hs
    exact ⟨Nat.le_refl _, Nat.le_refl _⟩
  | ldiv =>
    obtain ⟨x, y, q, rfl, hy, rfl⟩ := pm_e2_inv hs
    exact ⟨Nat.le_refl _, Nat.le_refl _⟩
  | lrem =>
    obtain ⟨x, y, q, rfl, hy, rfl⟩ := pm_e2_inv hs
    exact ⟨Nat.le_refl _, Nat.le_refl _⟩
  | lshl =>
    replace hs : (match st with
          | .int y :: .long x :: r => pm_n (pc + 1) ls (.long (x <<< (y.toInt64 &&& 63)) :: r) h
          | _ => none) = some (.inl s') := hs
    split at hs
    · obtain rfl := pm_n_inv hs
      exact ⟨Nat.le_refl _, Nat.le_refl _⟩
    · cases hs
  | dup =>
    replace hs : (match st with
          | v :: r => if v.category = 1 then pm_n (pc + 1) ls (v :: v :: r) h else none
          | _ => none) = some (.inl s') := hs
    split at hs
    · split at hs
      · rename_i hc
        obtain rfl := pm_n_inv hs
        exact ⟨Nat.le_refl _, Nat.le_refl _⟩
      · cases hs
    · cases hs
  | dup2 =>
    replace hs : (match st with
          | v :: w :: r => if v.category = 1 ∧ w.category = 1 then pm_n (pc + 1) ls (v :: w :: v :: w :: r) h else none
          | _ => none) = some (.inl s') := hs
    split at hs
    · split at hs
      · rename_i hc
        obtain rfl := pm_n_inv hs
        exact ⟨Nat.le_refl _, Nat.le_refl _⟩
      · cases hs
    · cases hs
  | pop =>
    replace hs : (match st with
          | v :: r => if v.category = 1 then pm_n (pc + 1) ls r h else none
          | _ => none) = some (.inl s') := hs
    split at hs
    · split at hs
      · rename_i hc
        obtain rfl := pm_n_inv hs
        exact ⟨Nat.le_refl _, Nat.le_refl _⟩
      · cases hs
    · cases hs
  | goto o =>
    obtain ⟨h0, rfl⟩ := pm_g_inv hs
    exact ⟨Nat.le_refl _, Nat.le_refl _⟩
  | ifCond cc o =>
    exact pm_cz_mono hs
  | if_icmp cc o =>
    exact pm_cm_mono hs
  | tableswitch dd lo hi offs =>
    exact pm_ts_mono hs
  | lookupswitch dd ps =>
    exact pm_lk_mono hs
  | getfield x =>
    exact pm_gf_mono hs
  | putfield x =>
    exact pm_pf_mono hs
  | getstatic x =>
    obtain rfl := pm_n_inv hs
    exact ⟨Nat.le_refl _, Nat.le_refl _⟩
  | new x =>
    exact pm_nw_mono hs
  | newarray t =>
    exact pm_na_mono hs
  | anewarray x =>
    exact pm_nq_mono hs
  | arraylength =>
    replace hs : (match st with
          | .ref a :: rest => match pm_len X h.1 a with
            | some v => pm_n (pc + 1) ls (.int v :: rest) h
            | none => none
          | _ => none) = some (.inl s') := hs
    split at hs
    · split at hs
      · rename_i v hv
        obtain rfl := pm_n_inv hs
        exact ⟨Nat.le_refl _, Nat.le_refl _⟩
      · cases hs
    · cases hs
  | iaload =>
    replace hs : (match st with
          | .int i :: .ref a :: rest => match pm_ia X h.1 h.2.1 a i with
            | some v => pm_n (pc + 1) ls (.int v :: rest) h
            | none => none
          | _ => none) = some (.inl s') := hs
    split at hs
    · split at hs
      · rename_i v hv
        obtain rfl := pm_n_inv hs
        exact ⟨Nat.le_refl _, Nat.le_refl _⟩
      · cases hs
    · cases hs
  | baload =>
    replace hs : (match st with
          | .int i :: .ref a :: rest => match pm_ba h.1 h.2.1 a i with
            | some v => pm_n (pc + 1) ls (.int v :: rest) h
            | none => none
          | _ => none) = some (.inl s') := hs
    split at hs
    · split at hs
      · rename_i v hv
        obtain rfl := pm_n_inv hs
        exact ⟨Nat.le_refl _, Nat.le_refl _⟩
      · cases hs
    · cases hs
  | laload =>
    replace hs : (match st with
          | .int i :: .ref a :: rest => match pm_la h.1 h.2.2 a i with
            | some v => pm_n (pc + 1) ls (.long v :: rest) h
            | none => none
          | _ => none) = some (.inl s') := hs
    split at hs
    · split at hs
      · rename_i v hv
        obtain rfl := pm_n_inv hs
        exact ⟨Nat.le_refl _, Nat.le_refl _⟩
      · cases hs
    · cases hs
  | aaload =>
    replace hs : (match st with
          | .int i :: .ref a :: rest => match pm_aa h.1 a i with
            | some v => pm_n (pc + 1) ls (v :: rest) h
            | none => none
          | _ => none) = some (.inl s') := hs
    split at hs
    · split at hs
      · rename_i v hv
        obtain rfl := pm_n_inv hs
        exact ⟨Nat.le_refl _, Nat.le_refl _⟩
      · cases hs
    · cases hs
  | iastore =>
    replace hs : (match st with
          | .int x :: .int i :: .ref a :: rest => if pm_okw h.1 1 a i = true then pm_n (pc + 1) ls rest (h.1, pm_w h.2.1 a i.toNatClampNeg x, h.2.2) else none
          | _ => none) = some (.inl s') := hs
    split at hs
    · split at hs
      · rename_i ho
        obtain rfl := pm_n_inv hs
        exact ⟨Nat.le_refl _, Nat.le_refl _⟩
      · cases hs
    · cases hs
  | lastore =>
    replace hs : (match st with
          | .long x :: .int i :: .ref a :: rest => if pm_okw h.1 4 a i = true then pm_n (pc + 1) ls rest (h.1, h.2.1, pm_wJ h.2.2 a i.toNatClampNeg x) else none
          | _ => none) = some (.inl s') := hs
    split at hs
    · split at hs
      · rename_i ho
        obtain rfl := pm_n_inv hs
        exact ⟨Nat.le_refl _, Nat.le_refl _⟩
      · cases hs
    · cases hs
  | bastore =>
    replace hs : (match st with
          | .int x :: .int i :: .ref a :: rest => if pm_okw h.1 2 a i = true then pm_n (pc + 1) ls rest (h.1, pm_w h.2.1 a i.toNatClampNeg (vp_nar .byte x), h.2.2)
            else if pm_okw h.1 3 a i = true then pm_n (pc + 1) ls rest (h.1, pm_w h.2.1 a i.toNatClampNeg (vp_nar .boolean x), h.2.2) else none
          | _ => none) = some (.inl s') := hs
    split at hs
    · split at hs
      · rename_i ho
        obtain rfl := pm_n_inv hs
        exact ⟨Nat.le_refl _, Nat.le_refl _⟩
      · split at hs
        · obtain rfl := pm_n_inv hs
          exact ⟨Nat.le_refl _, Nat.le_refl _⟩
        · cases hs
    · cases hs
  | aastore =>
    replace hs : (match st with
          | .ref b :: .int i :: .ref a :: rest => match h.1[a]? with
            | some (t, n, rs) => if (t == 5 && pm_isO h.1 b 4 || t == 6 && pm_isO h.1 b 3) && !pm_bad i n && i.toNatClampNeg < rs.length then pm_n (pc + 1) ls rest (h.1.set a (t, n, rs.set i.toNatClampNeg (some b)), h.2) else none
            | none => none
          | _ => none) = some (.inl s') := hs
    split at hs
    · split at hs
      · rename_i t n rs hc
        split at hs
        · rename_i ho
          obtain rfl := pm_n_inv hs
          exact ⟨by simp, Nat.le_of_eq (pm_sz_set hc).symm⟩
        · cases hs
      · cases hs
    · cases hs
  | invokevirtual x =>
    exact pm_iv_mono (d := d) (ls := ls) hs
  | invokestatic x =>
    exact pm_is_mono hs
  | invokespecial x =>
    exact pm_ip_mono hs
  | ireturn =>
    exact (pm_ret_ne hs).elim
  | lreturn =>
    exact (pm_retL_ne hs).elim
  | areturn =>
    exact (pm_retA_ne hs).elim
  | return_ =>
    exact (pm_retV_ne hs).elim
  | _ => exact absurd hs (by simp [pm_do])
set_option maxHeartbeats 4000000 in
theorem pm_do_sim {i : Instr} {r : Nat × Nat × Nat} (F : pm_Fr p s args m' meth c m) (O : pm_OF X α A s s.heap) (hA : ∀ q, s.heap.size ≤ q → A q) (hfr : d ≤ R.frames ∧ 64 * d ≤ R.locals) (hc0 : cells ≤ R.cells) (hs0 : slots ≤ R.slots) (hd : decode (pm_b m) pc = .ok (i, pm_il i r)) (hk : pm_lnk m i r = true) (hK : va_K D pm_cl8 (pm_tys κ) s) (L : pm_LH α arr (pm_ml m) ls) (Rr : pm_Re D κ α A s h H locs) (hs : pm_do X d m i r pc ls st h = some (.inl s')) (hrc : cells + s'.2.2.2.1.length ≤ R.cells + h.1.length) (hrs : slots + pm_sz s'.2.2.2.1 ≤ R.slots + pm_sz h.1) (G : pm_G p l e R s m' args below meth c D κ A Q m α cells slots h s') : W p l e R s m' args below meth c H locs cells slots Q (F0 m' pc arr (st.map (pm_mv α))) := by
  obtain ⟨r0, r1, r2⟩ := r
  have F' := F
  obtain ⟨hx, hb, hml, hown, hts, hlo, hr, hnm⟩ := F'
  cases i with
  | iconst n =>
    obtain rfl := pm_n_inv hs
    exact lv_iconst hx hb hd rfl (pm_G_same G L Rr)
  | bipush n =>
    obtain rfl := pm_n_inv hs
    exact lv_bipush hx hb hd rfl (pm_G_same G L Rr)
  | sipush n =>
    obtain rfl := pm_n_inv hs
    exact lv_sipush hx hb hd rfl (pm_G_same G L Rr)
  | lconst n =>
    obtain rfl := pm_n_inv hs
    exact lv_lconst hx hb hd rfl (pm_G_same G L Rr)
  | ldc n =>
    exact pm_ldc_sim F O hd hk L Rr hs G
  | ldc_w n =>
    obtain rfl := pm_n_inv hs
    exact lv_ldcw hx hb hown (hts _ (pm_has_g hk rfl)) hd (pm_G_same G L Rr)
  | ldc2_w n =>
    obtain rfl := pm_n_inv hs
    exact lv_ldc2 hx hb hown (hts _ (pm_has_g hk rfl)) hd (pm_G_same G L Rr)
  | iload k =>
    obtain ⟨x, hq, rfl⟩ := pm_ld_inv hs
    exact lv_iload hx hb hd (pm_LH_at L hq) (pm_G_same G L Rr)
  | iload_n k =>
    obtain ⟨x, hq, rfl⟩ := pm_ld_inv hs
    exact lv_iload_n hx hb hd rfl (pm_LH_at L hq) (pm_G_same G L Rr)
  | lload k =>
    obtain ⟨x, hq, rfl⟩ := pm_ldL_inv hs
    exact lv_lload hx hb hd (pm_LH_at L hq) (pm_G_same G L Rr)
  | lload_n k =>
    obtain ⟨x, hq, rfl⟩ := pm_ldL_inv hs
    exact lv_lload_n hx hb hd rfl (pm_LH_at L hq) (pm_G_same G L Rr)
  | aload k =>
    obtain ⟨x, hq, rfl⟩ := pm_ldA_inv hs
    exact lv_aload hx hb hd (pm_LH_at L hq) (pm_G_same G L Rr)
  | aload_n k =>
    obtain ⟨x, hq, rfl⟩ := pm_ldA_inv hs
    exact lv_aload_n hx hb hd rfl (pm_LH_at L hq) (pm_G_same G L Rr)
  | istore k =>
    exact pm_st_sim F hd L Rr hs G
  | istore_n k =>
    exact pm_stn_sim F hd L Rr hs G
  | lstore k =>
    exact pm_stJ_sim F hd L Rr hs G
  | lstore_n k =>
    exact pm_stJn_sim F hd L Rr hs G
  | astore k =>
    exact pm_stA_sim F hd L Rr hs G
  | astore_n k =>
    exact pm_stAn_sim F hd L Rr hs G
  | iinc k n =>
    replace hs : (match ls[k]? with
          | some (some (.int x)) => pm_n (pc + 3) (pm_sto ls k (.int (x + Int32.ofInt n))) st h
          | _ => none) = some (.inl s') := hs
    split at hs
    · rename_i x hxk
      exact pm_iinc_sim F hd L Rr hxk hs G
    · cases hs
  | iadd =>
    obtain ⟨x, y, q, rfl, rfl⟩ := pm_i2_inv hs
    exact lv_iadd hx hb hd (pm_G_same G L Rr)
  | isub =>
    obtain ⟨x, y, q, rfl, rfl⟩ := pm_i2_inv hs
    exact lv_isub hx hb hd (pm_G_same G L Rr)
  | imul =>
    obtain ⟨x, y, q, rfl, rfl⟩ := pm_i2_inv hs
    exact lv_imul hx hb hd (pm_G_same G L Rr)
  | iand =>
    obtain ⟨x, y, q, rfl, rfl⟩ := pm_i2_inv hs
    exact lv_iand hx hb hd (pm_G_same G L Rr)
  | ior =>
    obtain ⟨x, y, q, rfl, rfl⟩ := pm_i2_inv hs
    exact lv_ior hx hb hd (pm_G_same G L Rr)
  | ixor =>
    obtain ⟨x, y, q, rfl, rfl⟩ := pm_i2_inv hs
    exact lv_ixor hx hb hd (pm_G_same G L Rr)
  | ishl =>
    obtain ⟨x, y, q, rfl, rfl⟩ := pm_i2_inv hs
    exact lv_ishl hx hb hd (pm_G_same G L Rr)
  | ishr =>
    obtain ⟨x, y, q, rfl, rfl⟩ := pm_i2_inv hs
    exact lv_ishr hx hb hd (pm_G_same G L Rr)
  | iushr =>
    obtain ⟨x, y, q, rfl, rfl⟩ := pm_i2_inv hs
    exact lv_iushr hx hb hd rfl (pm_G_same G L Rr)
  | idiv =>
    obtain ⟨x, y, q, rfl, hy, rfl⟩ := pm_d2_inv hs
    exact lv_idiv hx hb hd hy (pm_G_same G L Rr)
  | irem =>
    obtain ⟨x, y, q, rfl, hy, rfl⟩ := pm_d2_inv hs
    exact lv_irem hx hb hd hy (pm_G_same G L Rr)
  | ineg =>
    obtain ⟨x, q, rfl, rfl⟩ := pm_i1_inv hs
    exact lv_ineg hx hb hd (pm_G_same G L Rr)
  | i2l =>
    obtain ⟨x, q, rfl, rfl⟩ := pm_i1_inv hs
    exact lv_i2l hx hb hd rfl (pm_G_same G L Rr)
  | i2b =>
    obtain ⟨x, q, rfl, rfl⟩ := pm_i1_inv hs
    exact lv_i2b hx hb hd rfl (pm_G_same G L Rr)
  | i2s =>
    obtain ⟨x, q, rfl, rfl⟩ := pm_i1_inv hs
    exact lv_i2s hx hb hd rfl (pm_G_same G L Rr)
  | i2c =>
    obtain ⟨x, q, rfl, rfl⟩ := pm_i1_inv hs
    exact lv_i2c hx hb hd rfl (pm_G_same G L Rr)
  | l2i =>
    replace hs : (match st with
          | .long x :: r => pm_n (pc + 1) ls (.int x.toInt32 :: r) h
          | _ => none) = some (.inl s') := hs
    split at hs
    · obtain rfl := pm_n_inv hs
      exact lv_l2i hx hb hd rfl (pm_G_same G L Rr)
    · cases hs
  | ladd =>
    obtain ⟨x, y, q, rfl, rfl⟩ := pm_l2_inv hs
    exact lv_ladd hx hb hd (pm_G_same G L Rr)
  | lmul =>
    obtain ⟨x, y, q, rfl, rfl⟩ := pm_l2_inv hs
    exact lv_lmul hx hb hd (pm_G_same G L Rr)
  | land =>
    obtain ⟨x, y, q, rfl, rfl⟩ := pm_l2_inv hs
    exact lv_land hx hb hd (pm_G_same G L Rr)
  | lor =>
    obtain ⟨x, y, q, rfl, rfl⟩ := pm_l2_inv hs
    exact lv_lor hx hb hd (pm_G_same G L Rr)
  | lcmp =>
    obtain ⟨x, y, q, rfl, rfl⟩ := pm_l2_inv hs
    exact W.lcmp hx hb hd (pm_G_same G L Rr)
  | ldiv =>
    obtain ⟨x, y, q, rfl, hy, rfl⟩ := pm_e2_inv hs
    exact lv_ldiv hx hb hd hy (pm_G_same G L Rr)
  | lrem =>
    obtain ⟨x, y, q, rfl, hy, rfl⟩ := pm_e2_inv hs
    exact lv_lrem hx hb hd hy (pm_G_same G L Rr)
  | lshl =>
    replace hs : (match st with
          | .int y :: .long x :: r => pm_n (pc + 1) ls (.long (x <<< (y.toInt64 &&& 63)) :: r) h
          | _ => none) = some (.inl s') := hs
    split at hs
    · obtain rfl := pm_n_inv hs
      exact lv_lshl hx hb hd rfl (pm_G_same G L Rr)
    · cases hs
  | dup =>
    replace hs : (match st with
          | v :: r => if v.category = 1 then pm_n (pc + 1) ls (v :: v :: r) h else none
          | _ => none) = some (.inl s') := hs
    split at hs
    · split at hs
      · rename_i hc
        obtain rfl := pm_n_inv hs
        exact lv_dup hx hb hd ((pm_mv_cat _).trans hc) (pm_G_same G L Rr)
      · cases hs
    · cases hs
  | dup2 =>
    replace hs : (match st with
          | v :: w :: r => if v.category = 1 ∧ w.category = 1 then pm_n (pc + 1) ls (v :: w :: v :: w :: r) h else none
          | _ => none) = some (.inl s') := hs
    split at hs
    · split at hs
      · rename_i hc
        obtain rfl := pm_n_inv hs
        exact lv_dup2_11 hx hb hd ((pm_mv_cat _).trans hc.1) ((pm_mv_cat _).trans hc.2) (pm_G_same G L Rr)
      · cases hs
    · cases hs
  | pop =>
    replace hs : (match st with
          | v :: r => if v.category = 1 then pm_n (pc + 1) ls r h else none
          | _ => none) = some (.inl s') := hs
    split at hs
    · split at hs
      · rename_i hc
        obtain rfl := pm_n_inv hs
        exact lv_pop hx hb hd ((pm_mv_cat _).trans hc) (pm_G_same G L Rr)
      · cases hs
    · cases hs
  | goto o =>
    obtain ⟨h0, rfl⟩ := pm_g_inv hs
    exact lv_goto hx hb hd (pm_j_eq h0) (pm_G_same G L Rr)
  | ifCond cc o =>
    exact pm_cz_sim F hd L Rr hs G
  | if_icmp cc o =>
    exact pm_cm_sim F hd L Rr hs G
  | tableswitch dd lo hi offs =>
    exact pm_ts_sim F hd L Rr hs G
  | lookupswitch dd ps =>
    exact pm_lk_sim F hd hk L Rr hs G
  | getfield x =>
    exact pm_gf_sim F O hd hk hK L Rr hs G
  | putfield x =>
    exact pm_pf_sim F hd hk hK L Rr hs G
  | getstatic x =>
    obtain rfl := pm_n_inv hs
    exact pm_gs_sim F O hd hk L Rr G
  | new x =>
    exact pm_new_sim F hA hd hk hK L Rr hs hrc hrs G
  | newarray t =>
    exact pm_na_sim F hA hd hk hK L Rr hs hrc hrs G
  | anewarray x =>
    exact pm_nq_sim F O hA hd hk hK L Rr hs hrc hrs G
  | arraylength =>
    replace hs : (match st with
          | .ref a :: rest => match pm_len X h.1 a with
            | some v => pm_n (pc + 1) ls (.int v :: rest) h
            | none => none
          | _ => none) = some (.inl s') := hs
    split at hs
    · split at hs
      · rename_i v hv
        obtain rfl := pm_n_inv hs
        exact pm_len_sim F O hd hK L Rr hv G
      · cases hs
    · cases hs
  | iaload =>
    replace hs : (match st with
          | .int i :: .ref a :: rest => match pm_ia X h.1 h.2.1 a i with
            | some v => pm_n (pc + 1) ls (.int v :: rest) h
            | none => none
          | _ => none) = some (.inl s') := hs
    split at hs
    · split at hs
      · rename_i v hv
        obtain rfl := pm_n_inv hs
        exact pm_ia_sim F O hd hK L Rr hv G
      · cases hs
    · cases hs
  | baload =>
    replace hs : (match st with
          | .int i :: .ref a :: rest => match pm_ba h.1 h.2.1 a i with
            | some v => pm_n (pc + 1) ls (.int v :: rest) h
            | none => none
          | _ => none) = some (.inl s') := hs
    split at hs
    · split at hs
      · rename_i v hv
        obtain rfl := pm_n_inv hs
        exact pm_ba_sim F O hd hK L Rr hv G
      · cases hs
    · cases hs
  | laload =>
    replace hs : (match st with
          | .int i :: .ref a :: rest => match pm_la h.1 h.2.2 a i with
            | some v => pm_n (pc + 1) ls (.long v :: rest) h
            | none => none
          | _ => none) = some (.inl s') := hs
    split at hs
    · split at hs
      · rename_i v hv
        obtain rfl := pm_n_inv hs
        exact pm_la_sim F hd hK L Rr hv G
      · cases hs
    · cases hs
  | aaload =>
    replace hs : (match st with
          | .int i :: .ref a :: rest => match pm_aa h.1 a i with
            | some v => pm_n (pc + 1) ls (v :: rest) h
            | none => none
          | _ => none) = some (.inl s') := hs
    split at hs
    · split at hs
      · rename_i v hv
        obtain rfl := pm_n_inv hs
        exact pm_aa_sim F hd hK L Rr hv G
      · cases hs
    · cases hs
  | iastore =>
    replace hs : (match st with
          | .int x :: .int i :: .ref a :: rest => if pm_okw h.1 1 a i = true then pm_n (pc + 1) ls rest (h.1, pm_w h.2.1 a i.toNatClampNeg x, h.2.2) else none
          | _ => none) = some (.inl s') := hs
    split at hs
    · split at hs
      · rename_i ho
        obtain rfl := pm_n_inv hs
        exact pm_iast_sim F hd hK L Rr ho G
      · cases hs
    · cases hs
  | lastore =>
    replace hs : (match st with
          | .long x :: .int i :: .ref a :: rest => if pm_okw h.1 4 a i = true then pm_n (pc + 1) ls rest (h.1, h.2.1, pm_wJ h.2.2 a i.toNatClampNeg x) else none
          | _ => none) = some (.inl s') := hs
    split at hs
    · split at hs
      · rename_i ho
        obtain rfl := pm_n_inv hs
        exact pm_last_sim F hd hK L Rr ho G
      · cases hs
    · cases hs
  | bastore =>
    replace hs : (match st with
          | .int x :: .int i :: .ref a :: rest => if pm_okw h.1 2 a i = true then pm_n (pc + 1) ls rest (h.1, pm_w h.2.1 a i.toNatClampNeg (vp_nar .byte x), h.2.2)
            else if pm_okw h.1 3 a i = true then pm_n (pc + 1) ls rest (h.1, pm_w h.2.1 a i.toNatClampNeg (vp_nar .boolean x), h.2.2) else none
          | _ => none) = some (.inl s') := hs
    split at hs
    · split at hs
      · rename_i ho
        obtain rfl := pm_n_inv hs
        exact pm_bast_sim F hd hK L Rr ho G
      · split at hs
        · rename_i ho
          obtain rfl := pm_n_inv hs
          exact pm_zast_sim F hd hK L Rr ho G
        · cases hs
    · cases hs
  | aastore =>
    replace hs : (match st with
          | .ref b :: .int i :: .ref a :: rest => match h.1[a]? with
            | some (t, n, rs) => if (t == 5 && pm_isO h.1 b 4 || t == 6 && pm_isO h.1 b 3) && !pm_bad i n && i.toNatClampNeg < rs.length then pm_n (pc + 1) ls rest (h.1.set a (t, n, rs.set i.toNatClampNeg (some b)), h.2) else none
            | none => none
          | _ => none) = some (.inl s') := hs
    split at hs
    · split at hs
      · rename_i t n rs hc
        split at hs
        · rename_i ho
          obtain rfl := pm_n_inv hs
          exact pm_aast_sim F hd hK L Rr hc ho G
        · cases hs
      · cases hs
    · cases hs
  | invokevirtual x =>
    exact (pm_iv_no0 (d := d) (ls := ls) hs).elim
  | invokestatic x =>
    exact pm_is_sim F hfr hc0 hs0 hd hk hK L Rr hs G
  | invokespecial x =>
    exact pm_ip_sim F hfr hd hk L Rr hs G
  | ireturn =>
    exact (pm_ret_ne hs).elim
  | lreturn =>
    exact (pm_retL_ne hs).elim
  | areturn =>
    exact (pm_retA_ne hs).elim
  | return_ =>
    exact (pm_retV_ne hs).elim
  | _ => exact absurd hs (by simp [pm_do])
end PMK
