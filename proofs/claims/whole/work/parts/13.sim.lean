theorem pm_ext_rf (n : Nat) (α : Nat → Nat) : pm_ext n n α α := ⟨fun _ _ => rfl, fun _ => rfl⟩
theorem pm_ext_tr {a b c : Nat} {α β γ : Nat → Nat} (h1 : pm_ext a b α β) (h2 : pm_ext b c β γ) (hab : a ≤ b) (hbc : b ≤ c) : pm_ext a c α γ := by
  refine ⟨fun k hk => (h2.1 k (by omega)).trans (h1.1 k hk), fun e => ?_⟩
  have e1 : b = a := by omega
  have e2 : c = b := by omega
  rw [h2.2 e2, h1.2 e1]
theorem pm_va_A {A : Nat → Prop} {s : State} {H : Heap} {locs : List Loc} {ws : va_W} (hD : va_D A ws) (hS : va_S A s.heap H locs) (hA : ∀ q, s.heap.size ≤ q → A q) : ∀ q, va_A ws H.size q → A q := by
  intro q h
  rcases h with ⟨k, e, h⟩ | h
  · exact hD.2 k (q, e) h
  · exact hA q (Nat.le_trans hS.1 h)
/-- behind a call -/
theorem pm_call (X : pm_X) (n : Nat) (IH : pm_Sim X n) {d m pc : Nat} {ls : List (Option Value)} {st rest args1 : List Value} {h : pm_H} {o1 o : pm_O}
    {p : Program} {l : Launch} {e : Env} {R : Room} {s : State} {m' : MethodId} {args : Array Value} {below : List Frame} {meth : Method} {c : Code} {D : va_G} {κ : Nat → ClassId} {A : Nat → Prop} {Q : State → Prop} {α : Nat → Nat} {arr : Array Slot} {H : Heap} {locs : List Loc} {cells slots mc ms : Nat}
    (F : pm_Fr p s args m' meth c m) (O : pm_OF X α A s s.heap) (hA : ∀ q, s.heap.size ≤ q → A q) (hfr : d ≤ R.frames ∧ 64 * d ≤ R.locals) (hK : va_K D pm_cl8 (pm_tys κ) s) (L : pm_LH α arr (pm_ml m) ls) (Rr : pm_Re D κ α A s h H locs)
    (h1 : cells + o.2.1.length ≤ mc + h.1.length) (h2 : slots + pm_sz o.2.1 ≤ ms + pm_sz h.1) (h3 : mc ≤ R.cells) (h4 : ms ≤ R.slots)
    (hfin : ∀ (α' : Nat → Nat) (arr' : Array Slot) (H' : Heap) (locs' : List Loc) (cells' slots' pc' : Nat), pm_ext h.1.length o.2.1.length α α' → pm_Re D κ α' A s o.2 H' locs' → cells' ≤ mc → slots' ≤ ms → pm_rd m pc' o.1 → W p l e R s m' args below meth c H' locs' cells' slots' Q (F0 m' pc' arr' (o.1.toList.map (pm_mv α'))))
    (hle1 : pm_le h o1.2) (hok : pm_okr o1.1 = true) (hwf : (o1.2.1.length == h.1.length || pm_wfs h.1.length ls rest) = true)
    (hgo : pm_exec X n d m (pc + 3, ls, o1.1.toList ++ rest, o1.2) = some o)
    (hrun : va_Run p l e R s m' args below meth c H locs cells slots (o1.2.1.length - h.1.length) (pm_sz o1.2.1 - pm_sz h.1) (F0 m' pc arr (st.map (pm_mv α))) (rest.map (pm_mv α)) (pm_Qc D κ (va_A (pm_ws κ α h) H.size) α h.1.length o1 (args1.map (pm_mv α)).toArray) (va_A (pm_ws κ α h) H.size)) :
    W p l e R s m' args below meth c H locs cells slots Q (F0 m' pc arr (st.map (pm_mv α))) := by
  have hle2 : pm_le o1.2 o.2 := pm_exec_le X n d m _ _ hgo
  have toA := pm_va_A Rr.2.1 Rr.2.2 hA
  -- the state behind it
  have next : ∀ (α' : Nat → Nat) (t : State) (H1 : Heap) (locs1 : List Loc), pm_ext h.1.length o1.2.1.length α α' → t.heap = H1 → pm_Be D κ (va_A (pm_ws κ α h) H.size) o1.2 α' t → va_S A s.heap H1 locs1 → W p l e R s m' args below meth c H1 locs1 (cells + (o1.2.1.length - h.1.length)) (slots + (pm_sz o1.2.1 - pm_sz h.1)) Q (F0 m' (pc + 3) arr ((o1.1.toList ++ rest).map (pm_mv α'))) := by
    intro α' t H1 locs1 hext ht hB hS
    obtain ⟨hP1, hK1, hD1⟩ := hB
    rw [ht] at hP1
    have L' : pm_LH α' arr (pm_ml m) ls := by
      rw [Bool.or_eq_true] at hwf
      rcases hwf with q | q
      · rw [hext.2 (by simpa using q)]
        exact L
      · simp only [pm_wfs, Bool.and_eq_true] at q
        exact pm_LH_ag hext.1 L q.1
    have R' : pm_Re D κ α' A s o1.2 H1 locs1 := ⟨hP1, hD1.weaken (fun k q _ z => toA _ z), hS⟩
    have a1 := hle1.1
    have a2 := hle1.2
    have b1 := hle2.1
    have b2 := hle2.2
    exact IH d m (pc + 3) ls (o1.1.toList ++ rest) o1.2 o hgo p l e R s m' args below meth c D κ A Q α' arr H1 locs1 _ _ mc ms F (pm_OF_ag O (fun k hk => hext.1 k (Or.inr hk))) hA hfr hK L' R' (by omega) (by omega) h3 h4
      (fun α'' arr'' H'' locs'' cells'' slots'' pc'' he hR hc hs hrd => hfin α'' arr'' H'' locs'' cells'' slots'' pc'' (pm_ext_tr hext he a1 b1) hR hc hs hrd)
  have rst : ∀ (α' : Nat → Nat), pm_ext h.1.length o1.2.1.length α α' → rest.map (pm_mv α') = rest.map (pm_mv α) := by
    intro α' hext
    rw [Bool.or_eq_true] at hwf
    rcases hwf with q | q
    · rw [hext.2 (by simpa using q)]
    · simp only [pm_wfs, Bool.and_eq_true] at q
      exact pm_mvs_ag hext.1 q.2
  obtain ⟨r1, h1'⟩ := o1
  match r1, hok with
  | none, _ =>
    exact va_callv (a := (args1.map (pm_mv α)).toArray) hrun Rr.2.2 (fun q _ z => toA q z) toA (fun u t H1 locs1 ht hvm hp hB hz hk hS => by
      have := next u t H1 locs1 hp ht hB hS
      simp only [Option.toList, List.nil_append] at this
      rw [rst u hp] at this
      exact this)
  | some (.int v), _ =>
    exact va_calli (a := (args1.map (pm_mv α)).toArray) hrun Rr.2.2 (fun q _ z => toA q z) toA (fun r u t H1 locs1 ht hvm hp hB hz hk hS => by
      obtain ⟨rfl, hp⟩ := hp
      have := next u t H1 locs1 hp ht hB hS
      simp only [Option.toList, List.cons_append, List.nil_append, List.map_cons] at this
      rw [rst u hp] at this
      exact this)
  | some (.long v), _ =>
    exact va_calll (a := (args1.map (pm_mv α)).toArray) hrun Rr.2.2 (fun q _ z => toA q z) toA (fun r u t H1 locs1 ht hvm hp hB hz hk hS => by
      obtain ⟨rfl, hp⟩ := hp
      have := next u t H1 locs1 hp ht hB hS
      simp only [Option.toList, List.cons_append, List.nil_append, List.map_cons] at this
      rw [rst u hp] at this
      exact this)
  | some (.ref k), _ =>
    exact va_callr (a := (args1.map (pm_mv α)).toArray) hrun Rr.2.2 (fun q _ z => toA q z) toA (fun u a t H1 locs1 ht hvm hp hB hz hk hS => by
      obtain ⟨rfl, hB⟩ := hB
      have := next u t H1 locs1 hp ht hB hS
      simp only [Option.toList, List.cons_append, List.nil_append, List.map_cons] at this
      rw [rst u hp] at this
      exact this)
theorem pm_mok_p {m : Nat} (hm : pm_mok m = true) : Cond.code (pm_y m) (pm_b m) (pm_ml m) (pm_rt m) ∈ lw_g ∧ Cond.initialized (pm_y m).cls ∈ lw_g ∧ (match (pm_pl m).2.2.2.2 with
    | 0 => pm_has (pm_pl m).2.1 (.static (pm_y m))
    | 1 => pm_has (pm_pl m).2.1 (.instanceMethod (pm_y m)) && pm_has (pm_pl m).2.2.1 (.selects (pm_y m).cls (pm_y m) (pm_y m)) && decide ((pm_ci m < 8 ∧ (pm_y m).cls = pm_C (pm_ci m)) ∨ (pm_ci m = 20 ∧ (pm_y m).cls = "java/lang/String"))
    | _ => pm_has (pm_pl m).2.1 (.instanceMethod (pm_y m)) && decide ((pm_y m).name = "<init>") && decide (pm_rt m = none)) = true ∧ ((pm_y m).cls ≠ "java/lang/invoke/MethodHandle" ∧ (pm_y m).cls ≠ "java/lang/invoke/VarHandle" ∧ (parseMethodDescriptor (pm_y m).desc).map (fun d => d.parameters.length) = some (pm_na0 m)) ∧ pm_ml m ≤ 40 := by
  simp only [pm_mok, Bool.and_eq_true, decide_eq_true_eq] at hm
  obtain ⟨⟨⟨⟨⟨⟨⟨⟨h1, h2⟩, h3⟩, h4⟩, h5⟩, h6⟩, h7⟩, h8⟩, h9⟩ := hm
  exact ⟨pm_has_g h1 rfl, pm_has_g h2 rfl, h3, h4, h6⟩
theorem pm_goodm {m : Nat} (hm : pm_mok m = true) : GoodIn lw_g (pm_wsm m) := by
  intro w hw
  rcases List.mem_cons.mp hw with rfl | h
  · have := (pm_mok_p hm).1
    exact pm_good _ this
  · exact pm_good _ h
theorem pm_goods {ws : List Cond} (h : ∀ w ∈ ws, w ∈ lw_g) {ws2 : List Cond} (h2 : GoodIn lw_g ws2) : GoodIn lw_g (ws ++ ws2) := by
  intro w hw
  rcases List.mem_append.mp hw with q | q
  · exact pm_good _ (h w q)
  · exact h2 w q
theorem pm_take_rev {st : List Value} {k : Nat} {v : Value} (h : st[k]? = some v) : (st.take (k + 1)).reverse = v :: (st.take k).reverse := by
  rw [List.take_add_one, h]
  simp
set_option maxHeartbeats 4000000 in
theorem pm_sim (X : pm_X) : ∀ n, pm_Sim X n := by
  intro n
  induction n with
  | zero => intro d m pc ls st h o hr; simp [pm_exec] at hr
  | succ n IH =>
    intro d m pc ls st h o hr p l e R s m' args below meth c D κ A Q α arr H locs cells slots mc ms F O hA hfr hK L Rr h1 h2 h3 h4 hfin
    rw [pm_exec] at hr
    cases hs : pm_step X d m (pc, ls, st, h) with
    | none => rw [hs] at hr; simp at hr
    | some q =>
      rw [hs] at hr
      obtain ⟨i, r, hat, hdo⟩ := pm_step_do hs
      obtain ⟨hd, hk⟩ := pm_at_chk hat
      rcases q with s' | o' | ⟨mj, as, rest⟩
      · dsimp only at hr
        obtain ⟨pc', ls', st', h'⟩ := s'
        have a := pm_do_mono hdo
        have b : pm_le h' o.2 := pm_exec_le X n d m _ _ hr
        have a1 := a.1
        have a2 := a.2
        have b1 := b.1
        have b2 := b.2
        simp only at a1 a2
        refine pm_do_sim F O hA hfr (by omega) (by omega) hd hk hK L Rr hdo (by simp only; omega) (by simp only; omega) ?_
        intro α' arr' H' locs' cells' slots' hext hL hR hc hsl
        exact IH d m pc' ls' st' h' o hr p l e R s m' args below meth c D κ A Q α' arr' H' locs' cells' slots' mc ms F (pm_OF_ag O (fun k hk => hext.1 k (Or.inr hk))) hA hfr hK hL hR (by simp only at hc; omega) (by simp only at hsl; omega) h3 h4
          (fun α'' arr'' H'' locs'' cells'' slots'' pc'' he hR2 hc2 hs2 hrd => hfin α'' arr'' H'' locs'' cells'' slots'' pc'' (pm_ext_tr hext he a1 b1) hR2 hc2 hs2 hrd)
      · cases hr
        obtain ⟨hrd, he, hst⟩ := pm_do_ret hd hdo
        have hx := hfin α arr H locs cells slots pc (by rw [he]; exact pm_ext_rf _ _) (by rw [he]; exact Rr) (by rw [he] at h1; omega) (by rw [he] at h2; omega) hrd
        rw [← hst] at hx
        exact hx
      · cases d with
        | zero => simp at hr
        | succ d =>
          dsimp only at hr
          cases hc : pm_exec X n d mj (0, pm_ent (pm_ml mj) as, [], h) with
          | none => rw [hc] at hr; simp at hr
          | some o1 =>
            rw [hc] at hr
            dsimp only at hr
            split at hr
            · rename_i hw
              rw [Bool.and_eq_true] at hw
              have hle1 : pm_le h o1.2 := pm_exec_le X n d mj _ _ hc
              have hle2 : pm_le o1.2 o.2 := pm_exec_le X n (d + 1) m _ _ hr
              have a1 := hle1.1
              have a2 := hle1.2
              have b1 := hle2.1
              have b2 := hle2.2
              have toA := pm_va_A Rr.2.1 Rr.2.2 hA
              have hf : cells + (o1.2.1.length - h.1.length) ≤ R.cells ∧ slots + (pm_sz o1.2.1 - pm_sz h.1) ≤ R.slots := ⟨by omega, by omega⟩
              have hPc : ∀ U : State, U.heap = H → s.WarmedH U.vm → pm_Pc X D κ α H.size h as (as.map (pm_mv α)).toArray U := fun U hU hW => ⟨rfl, by rw [hU], by rw [hU]; exact Rr.1, va_K.moved hW.alike hK, Rr.2.1.weaken (fun _ _ _ _ => trivial), pm_OF_to O Rr.2.2 hW hU toA⟩
              have hsz : arr.size = pm_ml m := by
                obtain ⟨_, lv, hl, _⟩ := L
                exact hl.1
              have F' := F
              obtain ⟨hx, hb, hml, hown, hts, hlo, hret, hnm⟩ := F'
              have hroom : ∀ rm : Room, rm = pm_rm d (o1.2.1.length - h.1.length) (pm_sz o1.2.1 - pm_sz h.1) → pm_ml mj ≤ 40 → rm.frames + 1 ≤ R.frames ∧ 8 + (pm_ml mj + 11) + rm.locals ≤ R.locals := by
                rintro rm rfl hq
                simp only [pm_rm]
                omega
              refine pm_call X n IH (args1 := as) F O hA hfr hK L Rr h1 h2 h3 h4 hfin hle1 hw.1 hw.2 hr ?_
              rcases pm_do_inr hdo with ⟨x, rfl⟩ | ⟨x, rfl⟩ | ⟨x, rfl⟩ | rfl | rfl | rfl | rfl
              · obtain ⟨e0, hrc, hiv⟩ := pm_iv_inr (d := d) (ls := ls) hdo
                obtain ⟨hkl, hq, hsm, hal⟩ := pm_inv_inv hiv
                cases hq
                obtain ⟨r0, r1, r2⟩ := r
                dsimp only at e0 hrc hkl hsm hal hPc hc ⊢
                subst e0
                simp only [pm_lnk, Bool.and_eq_true, decide_eq_true_eq] at hk
                obtain ⟨⟨hlk, hlt⟩, hkind⟩ := hk
                have hm := pm_mok_ok r1 hlt
                obtain ⟨w1, w2, w3, w4, w5⟩ := pm_mok_p hm
                rw [hkind] at w3
                simp only [Bool.and_eq_true, decide_eq_true_eq] at w3
                obtain ⟨⟨w3a, w3b⟩, w3c⟩ := w3
                obtain ⟨b, hb0, hrs⟩ : ∃ b, st[pm_na0 r1]? = some (.ref b) ∧ ∃ cell : Cell, H[α b]? = some cell ∧ cell.vm.isStatics = false ∧ s.vm.findClass (pm_y r1).cls = some cell.cls := by
                  unfold pm_rcv at hrc
                  split at hrc
                  · rename_i b hq
                    refine ⟨b, hq, ?_⟩
                    rcases w3c with ⟨w3d, w3c⟩ | ⟨w3d, w3c⟩
                    · rw [if_neg (by omega)] at hrc
                      obtain ⟨rs, hrs⟩ := pm_isO_inv hrc
                      rw [w3c]
                      exact va_recv hK Rr.1 (pm_cl8_at _ w3d) (pm_ws_get hrs)
                    · rw [if_pos w3d] at hrc
                      obtain ⟨t, ht⟩ := Option.isSome_iff_exists.mp hrc
                      obtain ⟨j, hj, rfl, -, -⟩ := pm_txt_inv ht
                      obtain ⟨-, -, -, ⟨-, d2, -⟩, -⟩ := O
                      rw [w3c]
                      exact vk_recv (adK := fun i => α (1000010 + i)) (i := j) d2 hj Rr.2.2
                  · cases hrc
                rw [pm_take_rev hb0] at hal hPc hc ⊢
                have met := pm_met X n IH l D κ α H.size d r1 hm _ h o1 hal hc
                refine (va_runV (C := (pm_y r1).cls) (b := α b) (As := ((st.take (pm_na0 r1)).reverse).map (pm_mv α)) (rest := (st.drop (pm_na0 r1 + 1)).map (pm_mv α)) ⟨hx, hb, hml, hown, hts⟩ met (cwV (pm_na0 r1) hts (pm_goods ?_ (pm_goodm hm)) rfl rfl rfl ⟨rfl, w4⟩ (hroom _ rfl w5)) ⟨pm_Pc_blind _ _ _ _ _ _ _, ?_, hPc⟩ rfl ?_ hsz ?_ (lv_room (by rw [pm_smc_mv]; exact hsm)) hd hf :)
                · intro w hw'
                  simp only [List.mem_cons, List.not_mem_nil, or_false] at hw'
                  rcases hw' with rfl | rfl | rfl | rfl
                  · exact pm_has_g hlk rfl
                  · exact pm_has_g w3a rfl
                  · exact pm_has_g w3b rfl
                  · exact w2
                · exact hrs
                · simp
                  omega
                · show st.map (pm_mv α) = _
                  rw [← List.map_reverse, List.reverse_reverse]
                  have : st = st.take (pm_na0 r1) ++ .ref b :: st.drop (pm_na0 r1 + 1) := by
                    conv => lhs; rw [← List.take_append_drop (pm_na0 r1) st]
                    rw [List.drop_eq_getElem_cons (by omega)]
                    have := (List.getElem?_eq_some_iff.mp hb0).2
                    rw [this]
                  conv => lhs; rw [this]
                  rw [List.map_append, List.map_cons]
                  rfl
              · obtain ⟨e0, hiv⟩ := pm_is_inr hdo
                obtain ⟨hkl, hq, hsm, hal⟩ := pm_inv_inv hiv
                cases hq
                obtain ⟨r0, r1, r2⟩ := r
                dsimp only at e0 hkl hsm hal hPc hc
                subst e0
                simp only [pm_lnk, Bool.and_eq_true, decide_eq_true_eq] at hk
                obtain ⟨⟨hlt, hkind⟩, hlk⟩ := hk
                have hm := pm_mok_ok r1 hlt
                obtain ⟨w1, w2, w3, w4, w5⟩ := pm_mok_p hm
                rw [hkind] at w3
                have met := pm_met X n IH l D κ α H.size d r1 hm _ h o1 hal hc
                have hst : st.map (pm_mv α) = (((st.take (pm_na0 r1)).reverse).map (pm_mv α)).reverse ++ (st.drop (pm_na0 r1)).map (pm_mv α) := by
                  rw [← List.map_reverse, List.reverse_reverse, ← List.map_append, List.take_append_drop]
                split at hlk
                · rename_i hcls
                  obtain ⟨z1, rfl, rfl⟩ := of_decide_eq_true hlk
                  rw [z1] at hown
                  obtain ⟨-, -, -, -, -, -, nst⟩ := O
                  refine (va_runSN (As := ((st.take (pm_na0 39)).reverse).map (pm_mv α)) (rest := (st.drop (pm_na0 39)).map (pm_mv α)) ⟨hx, hb, hml, hown, hts⟩ met ⟨va_cnB (pm_na0 39) hts (pm_goodm hm) rfl rfl rfl nst (hts _ w2) w4 (hroom _ rfl w5), hts _ (pm_has_g w3 rfl), trivial⟩ ⟨pm_Pc_blind _ _ _ _ _ _ _, hPc⟩ rfl ?_ hsz hst (lv_room (by rw [pm_smc_mv]; exact hsm)) hd hf :)
                  simp
                  omega
                · rename_i hcls
                  refine (va_runS (As := ((st.take (pm_na0 r1)).reverse).map (pm_mv α)) (rest := (st.drop (pm_na0 r1)).map (pm_mv α)) ⟨hx, hb, hml, hown, hts⟩ met (va_cwS (pm_na0 r1) hts (pm_goods ?_ (pm_goodm hm)) rfl rfl rfl w4 (hroom _ rfl w5)) ⟨pm_Pc_blind _ _ _ _ _ _ _, hPc⟩ rfl ?_ hsz hst (lv_room (by rw [pm_smc_mv]; exact hsm)) hd hf :)
                  · intro w hw'
                    simp only [List.mem_cons, List.not_mem_nil, or_false] at hw'
                    rcases hw' with rfl | rfl | rfl
                    · exact pm_has_g hlk rfl
                    · exact pm_has_g w3 rfl
                    · exact w2
                  · simp
                    omega
              · obtain ⟨e0, ⟨b, hb0⟩, hiv⟩ := pm_ip_inr hdo
                obtain ⟨hkl, hq, hsm, hal⟩ := pm_inv_inv hiv
                cases hq
                obtain ⟨r0, r1, r2⟩ := r
                dsimp only at e0 hb0 hkl hsm hal hPc hc ⊢
                subst e0
                simp only [pm_lnk, Bool.and_eq_true, decide_eq_true_eq] at hk
                obtain ⟨⟨hlk, hlt⟩, hkind⟩ := hk
                have hm := pm_mok_ok r1 hlt
                obtain ⟨w1, w2, w3, w4, w5⟩ := pm_mok_p hm
                rw [hkind] at w3
                simp only [Bool.and_eq_true, decide_eq_true_eq] at w3
                obtain ⟨⟨w3a, w3b⟩, w3c⟩ := w3
                rw [pm_take_rev hb0] at hal hPc hc ⊢
                have met := pm_met X n IH l D κ α H.size d r1 hm _ h o1 hal hc
                have hG := pm_goodm hm
                unfold pm_wsm at met hG
                rw [w3c] at met hG
                refine (va_runI (b := α b) (As := ((st.take (pm_na0 r1)).reverse).map (pm_mv α)) (rest := (st.drop (pm_na0 r1 + 1)).map (pm_mv α)) ⟨hx, hb, hml, hown, hts⟩ met (cwI (pm_na0 r1) hts hG rfl rfl rfl (hts _ w2) (hts _ (pm_has_g hlk rfl)) (hts _ (pm_has_g w3a rfl)) w3b w4 (hroom _ rfl w5)) ⟨pm_Pc_blind _ _ _ _ _ _ _, hPc⟩ rfl ?_ hsz ?_ (lv_room (by rw [pm_smc_mv]; exact hsm)) hd hf :)
                · simp
                  omega
                · show st.map (pm_mv α) = _
                  rw [← List.map_reverse, List.reverse_reverse]
                  have : st = st.take (pm_na0 r1) ++ .ref b :: st.drop (pm_na0 r1 + 1) := by
                    conv => lhs; rw [← List.take_append_drop (pm_na0 r1) st]
                    rw [List.drop_eq_getElem_cons (by omega)]
                    have := (List.getElem?_eq_some_iff.mp hb0).2
                    rw [this]
                  conv => lhs; rw [this]
                  rw [List.map_append, List.map_cons]
                  rfl
              all_goals exfalso
              all_goals revert hdo
              all_goals simp only [pm_do, pm_ret, pm_retL, pm_retA, pm_retV]
              all_goals ((repeat' split) <;> simp)
            · simp at hr
