/-! the parser: winter() of the class -/
def wA (f : Nat) (r : wR) : Int32 := if r.1 = true then nI f else -10 - nI r.2.1
def wH (B : Nat → Nat → Int32) (f : Nat) (ok : Bool) : Nat → Nat → Int32 := if ok = true then pm_w (pm_w (pm_w B 0 4 0) 1 11 (nI f)) 0 7 (nI (f + 1)) else pm_w B 0 4 0
def rsN : List (Option Nat) := [none, none, none, none, none]
def rsA : List (Option Nat) := [some 25, none, none, none, none]
def rsW (w : Nat) : List (Option Nat) := [some 25, none, some w, none, none]
section P76
variable {X : pm_X} {d : Nat} {P Q : pm_O → Prop} {g : List pm_S} {S : List pm_S} {I I' I1 H : Nat → Nat → Int32} {J J' : Nat → Nat → Int64} {a i n k p R w L F s m v f pc : Nat} {b x y nu : Int32} {t : List Int32} {C T : Nat → Int32} {c : Nat} {ls : List (Option Value)} {st : List Value}
theorem pkv_l {S' : List pm_S} (h : S'.length = k) : pm_k X d m pc ls st k Q (none, (S', I, J)) = pm_V X d m pc ls st (S', I, J) Q := by
  subst h
  exact pk_v
theorem gt_last {x : pm_S} : (pm_S0 ++ (g ++ [x]))[123 + g.length]? = some x := by
  rw [List.getElem?_append_right (by rw [S0_len]; omega), S0_len, Nat.add_sub_cancel_left, List.getElem?_concat_length]
theorem st_last {x y : pm_S} : (pm_S0 ++ (g ++ [x])).set (123 + g.length) y = pm_S0 ++ (g ++ [y]) := by
  rw [List.set_append_right _ _ (by rw [S0_len]; omega), S0_len, Nat.add_sub_cancel_left, List.set_append_right _ _ (Nat.le_refl _), Nat.sub_self]
  rfl
theorem is_last {rs : List (Option Nat)} : pm_isO (pm_S0 ++ (g ++ [(0, 6, rs)])) (123 + g.length) 6 = true := by
  unfold pm_isO
  rw [gt_last]
  rfl
theorem rg_last {rs : List (Option Nat)} : pm_rg (pm_S0 ++ (g ++ [(0, 6, rs)])) (123 + g.length) 6 k = some (pm_rf (rs.getD k none)) := by
  unfold pm_rg
  rw [gt_last]
  show (if (6 : Nat) = 6 then some (pm_rf (rs.getD k none)) else none) = _
  rw [if_pos rfl]
theorem K_R_init (hn : n ≤ 100) : pm_cl X (d + 3) 93 [.ref (123 + g.length), .ref 25, .int (nI n), .ref w] (pm_S0 ++ (g ++ [(0, 6, rsN)]), I, J) P = P (none, (pm_S0 ++ (g ++ [(0, 6, rsW w)]), pm_w (pm_w (pm_w I (123 + g.length) 3 0) (123 + g.length) 4 0) (123 + g.length) 1 (nI n), J)) := by
  have hl : ∀ h, pm_len X (pm_S0 ++ h) 25 = some 100 := fun h => rfl
  have o1 := @is_last g rsN
  have o2 := @is_last g rsA
  have o3 := @is_last g (rsW w)
  have g1 := @gt_last g (0, 6, rsN)
  have g2 := @gt_last g (0, 6, rsA)
  have s1 : (pm_S0 ++ (g ++ [(0, 6, rsN)])).set (123 + g.length) (0, 6, rsN.set 0 (some 25)) = pm_S0 ++ (g ++ [(0, 6, rsA)]) := st_last
  have s2 : (pm_S0 ++ (g ++ [(0, 6, rsA)])).set (123 + g.length) (0, 6, rsA.set 2 (some w)) = pm_S0 ++ (g ++ [(0, 6, rsW w)]) := st_last
  have l1 : (0 < rsN.length) = True := eq_true (by decide)
  have l2 : (2 < rsA.length) = True := eq_true (by decide)
  generalize 123 + g.length = R at *
  have hm : (100 < nI n) = False := eq_false (nI_nlt (a := 100) hn (by decide))
  refine K_of (k := 2) (fun d' => ?_)
  have hd : (2 ≤ d' + 2) = True := eq_true (by omega)
  show pm_V X (d' + 2) 93 0 [some (.ref R), some (.ref 25), some (.int (nI n)), some (.ref w)] [] (pm_S0 ++ (g ++ [(0, 6, rsN)]), I, J) _
  simp only [e_R_init_0, e_R_init_1, e_R_init_4, e_R_init_5, e_R_init_6, e_R_init_9, e_R_init_10, e_R_init_11, e_R_init_14, e_R_init_15, e_R_init_16, e_R_init_19, e_R_init_20, e_R_init_21, e_R_init_22, e_R_init_23, e_R_init_26, e_R_init_29, e_R_init_30, e_R_init_31, e_R_init_34, hd, o1, o2, o3, g1, g2, s1, s2, l1, l2, hl, hm, pm_opt_some, pm_opt_none, pm_opt_if, Bool.false_eq_true, Bool.not_false, Bool.not_true, if_false, if_true, true_and, and_true, true_or, or_true, not_true_eq_false, not_false_eq_true, q10, q00, q01, q11, pk_v, pk_i, pk_l, pk_r]
theorem wfr_mono {v : Option Nat} (h : pm_wfr 123 v = true) (hR : 123 ≤ R) : pm_wfr R v = true := by
  cases v with
  | none => rfl
  | some a =>
    simp only [pm_wfr, Bool.or_eq_true, decide_eq_true_eq] at h ⊢
    omega
theorem wfh_all (hr : gOK g) : pm_wfh (123 + g.length) (pm_S0 ++ g) = true := by
  unfold pm_wfh
  have h0 : pm_S0.all (fun c => c.2.2.all (pm_wfr 123)) = true := rfl
  rw [List.all_append, Bool.and_eq_true]
  refine ⟨List.all_eq_true.mpr (fun c hc => List.all_eq_true.mpr (fun v hv => ?_)), List.all_eq_true.mpr (fun c hc => List.all_eq_true.mpr (fun v hv => ?_))⟩
  · exact wfr_mono (List.all_eq_true.mp (List.all_eq_true.mp h0 c hc) v hv) (by omega)
  · exact wfr_mono (List.all_eq_true.mp (hr c hc).2.2 v hv) (by omega)
theorem WC_CHr {ds : List cL} (hR : 123 ≤ R) (hw : w ≤ 65) (h : WC I w L C ds) : WC (CHr I R w p nu k C) w L (CHr I R w p nu k C (w + 4)) ds := by
  have e0 : CHr I R w p nu k C w 3 = I w 3 := by
    unfold CHr
    rw [if_neg (by omega), if_neg (by omega), if_pos rfl, if_neg (by decide)]
  have e1 : CHr I R w p nu k C (w + 1) = I (w + 1) := by
    funext i
    unfold CHr
    rw [if_neg (by omega), if_neg (by omega), if_neg (by omega)]
  have e2 : CHr I R w p nu k C (w + 2) = I (w + 2) := by
    funext i
    unfold CHr
    rw [if_neg (by omega), if_neg (by omega), if_neg (by omega)]
  have e3 : CHr I R w p nu k C (w + 3) = I (w + 3) := by
    funext i
    unfold CHr
    rw [if_neg (by omega), if_neg (by omega), if_neg (by omega)]
  have e4 : CHr I R w p nu k C (w + 4) = C := by
    funext i
    unfold CHr
    rw [if_neg (by omega), if_pos rfl]
  unfold WC
  rw [e0, e1, e2, e3, e4]
  exact h
theorem B_winter_run (hg : g.length ≤ 600) (hr : gOK g) (hf : f < 5) (ef : I 0 7 = nI f) (hn : n ≤ 100) (en : I 0 4 = nI n) (hb : ∀ k, (I 25 k).toInt8.toInt32 = I 25 k) : ∃ (B : Nat → Nat → Int32) (L : Nat), (∀ q, (q < 45 + 5 * f ∨ 45 + 5 * f + 4 < q) → ¬ q = 123 + g.length → B q = I q) ∧ ((pW (I 25) n 10 0 0).1 = true → WC B (45 + 5 * f) L (B (45 + 5 * f + 4)) (pW (I 25) n 10 0 0).2.2) ∧ ∀ (d : Nat) (P : pm_O → Prop), pm_cl X (d + 50) 6 [.ref 0] (pm_S0 ++ g, I, J) P = P (some (.int (wA f (pW (I 25) n 10 0 0))), (pm_S0 ++ (g ++ [(0, 6, rsW (45 + 5 * f))]), wH B f (pW (I 25) n 10 0 0).1, pm_upJ J (123 + g.length) (fun _ => 0))) := by
  have hlt : (nI f < 5) = True := eq_true (nI_lt (b := 5) hf (by decide))
  have hlen : (pm_S0 ++ g).length = 123 + g.length := by rw [List.length_append, S0_len]
  have c1 : (pm_wfs (123 + g.length) [some (.ref 0), none, none] [] && pm_wfh (123 + g.length) (pm_S0 ++ g) && decide (123 + g.length < 1000000)) = true := by
    have a1 : pm_wfs (123 + g.length) [some (.ref 0), none, none] [] = true := by
      unfold pm_wfs
      have : pm_wfv (123 + g.length) (.ref 0) = true := by
        show (decide (0 < 123 + g.length) || decide (1000000 ≤ 0)) = true
        rw [decide_eq_true (by omega)]
        rfl
      simp only [List.all_cons, List.all_nil, pm_wfo, this, Bool.and_self]
    rw [a1, wfh_all hr, decide_eq_true (by omega)]
    rfl
  have c2 : (pm_S0 ++ g) ++ [(0, 6, List.replicate (pm_nf 6) none)] = pm_S0 ++ (g ++ [(0, 6, rsN)]) := by
    rw [List.append_assoc]
    rfl
  have ki := fun (d : Nat) (P : pm_O → Prop) (I : Nat → Nat → Int32) (J : Nat → Nat → Int64) => K_R_init (X := X) (d := d) (P := P) (g := g) (w := 45 + 5 * f) (I := I) (J := J) hn
  have aa := fun (g : List pm_S) => wn_a (g := g) hf
  have l2 : (pm_S0 ++ (g ++ [(0, 6, rsW (45 + 5 * f))])).length = (pm_S0 ++ (g ++ [(0, 6, rsN)])).length := by
    simp only [List.length_append, List.length_singleton]
  have hp : ∀ R, 123 ≤ R → ∀ q, ¬ q = R → pm_w (pm_w (pm_w (pm_up I R (fun _ => 0)) R 3 0) R 4 0) R 1 (nI n) q = I q := fun R _ q hq => by rw [pw_ne hq, pw_ne hq, pw_ne hq, pu_ne hq]
  have h0 : pm_up I (123 + g.length) (fun _ => 0) 0 = I 0 := pu_ne (by omega)
  have hRD : RD (g ++ [(0, 6, rsW (45 + 5 * f))]) (pm_w (pm_w (pm_w (pm_up I (123 + g.length) (fun _ => 0)) (123 + g.length) 3 0) (123 + g.length) 4 0) (123 + g.length) 1 (nI n)) (123 + g.length) (45 + 5 * f) n := by
    refine ⟨by rw [List.length_append, List.length_singleton]; omega, by omega, by omega, win_at hf, is_last, rg_last, rg_last, ?_, hn, fun k => ?_⟩
    · rw [pw_eq, upd_app, if_pos rfl]
    · rw [hp _ (by omega) 25 (by omega)]
      exact hb k
  have hR3 : pm_w (pm_w (pm_w (pm_up I (123 + g.length) (fun _ => 0)) (123 + g.length) 3 0) (123 + g.length) 4 0) (123 + g.length) 1 (nI n) (123 + g.length) 3 = nI 0 := by
    rw [pw_eq, upd_app, if_neg (by decide), pw_eq, upd_app, if_neg (by decide), pw_eq, upd_app, if_pos rfl]
    rfl
  have hH := hp (123 + g.length) (by omega)
  have o1 := @is_last g (rsW (45 + 5 * f))
  have pk2 := fun (d : Nat) (m pc : Nat) (ls : List (Option Value)) (st : List Value) (Q : pm_O → Prop) (I : Nat → Nat → Int32) (J : Nat → Nat → Int64) => pkv_l (X := X) (d := d) (m := m) (pc := pc) (ls := ls) (st := st) (Q := Q) (I := I) (J := J) l2
  have hRl : 123 ≤ 123 + g.length := by omega
  generalize 123 + g.length = R at *
  generalize hHe : pm_w (pm_w (pm_w (pm_up I R (fun _ => 0)) R 3 0) R 4 0) R 1 (nI n) = H at *
  obtain ⟨I', nu', L', C', a1, a2, a3⟩ := K_R_takeWinter (X := X) (J := pm_upJ J R (fun _ => 0)) hRD hR3
  have e25 : H 25 = I 25 := hH 25 (by omega)
  rw [e25] at a2 a3
  generalize pW (I 25) n 10 0 0 = r at a2 a3 ⊢
  obtain ⟨ok, p', cls⟩ := r
  dsimp only at a2 a3 ⊢
  have hB : ∀ q, (q < 45 + 5 * f ∨ 45 + 5 * f + 4 < q) → ¬ q = R → CHr I' R (45 + 5 * f) p' nu' L' C' q = I q := by
    intro q h1 h2
    funext i
    unfold CHr
    rw [if_neg h2, if_neg (by omega), if_neg (by omega), a1 q (by omega), hH q h2]
  have f3 : CHr I' R (45 + 5 * f) p' nu' L' C' R 3 = nI p' := CHr_p
  refine ⟨CHr I' R (45 + 5 * f) p' nu' L' C', L', hB, fun z => WC_CHr hRl (by omega) (a2 z), fun d P => propext (pm_cl_of (k := 49) (by omega) (fun d' => ?_) P)⟩
  have B0 : CHr I' R (45 + 5 * f) p' nu' L' C' 0 = I 0 := hB 0 (by omega) (by omega)
  generalize CHr I' R (45 + 5 * f) p' nu' L' C' = B at a3 hB f3 B0 ⊢
  have z0 : ∀ v, pm_w B 0 4 v R = B R := fun v => pw_ne (by omega)
  have z1 : pm_w B 0 4 0 0 7 = nI f := by rw [pw_eq, upd_app, if_neg (by decide), B0, ef]
  have z2 : pm_w (pm_w B 0 4 0) 1 11 (nI f) 0 7 = nI f := by rw [pw_ne (by decide), z1]
  have z3 : pm_w (pm_w (pm_w B 0 4 0) 1 11 (nI f)) 0 7 (nI (f + 1)) 1 11 = nI f := by rw [pw_ne (by decide), pw_eq, upd_app, if_pos rfl]
  have wi : (pm_w (pm_w (pm_w (pm_up I R (fun _ => 0)) R 3 0) R 4 0) R 1 (nI n)) = H := hHe
  cases ok with
  | false =>
    show pm_V X (d' + 49) 6 0 [some (.ref 0), none, none] [] (pm_S0 ++ g, I, J) _
    simp only [e_B_winter_0, e_B_winter_1, e_B_winter_4, e_B_winter_5, e_B_winter_10, e_B_winter_11, e_B_winter_14, e_B_winter_15, e_B_winter_16, e_B_winter_19, e_B_winter_20, e_B_winter_23, e_B_winter_24, e_B_winter_27, e_B_winter_28, e_B_winter_31, e_B_winter_32, e_B_winter_35, e_B_winter_36, e_B_winter_37, e_B_winter_40, e_B_winter_41, e_B_winter_42, e_B_winter_43, e_B_winter_46, e_B_winter_47, e_B_winter_50, e_B_winter_52, e_B_winter_53, e_B_winter_56, e_B_winter_57, e_B_winter_59, e_B_winter_62, e_B_winter_63, e_B_winter_66, e_B_winter_69, e_B_winter_70, e_B_winter_71, e_B_winter_74, e_B_winter_75, e_B_winter_76, e_B_winter_79, e_B_winter_80, e_B_winter_83, e_B_winter_86, sh_o_0, sh_r_0_0, sh_r_0_1, sh_r_0_3, sh_r_0_6, sh_o_1, ef, en, hlt, hlen, c1, c2, h0, aa, ki, wi, pk2, a3, o1, f3, z0, b2_f, wA, wH, pm_opt_some, pm_opt_none, pm_opt_if, Bool.false_eq_true, Bool.not_false, Bool.not_true, if_false, if_true, true_and, and_true, true_or, or_true, not_true_eq_false, not_false_eq_true, q10, q00, q01, q11, pk_v, pk_i, pk_l, pk_r]
  | true =>
    show pm_V X (d' + 49) 6 0 [some (.ref 0), none, none] [] (pm_S0 ++ g, I, J) _
    simp only [e_B_winter_0, e_B_winter_1, e_B_winter_4, e_B_winter_5, e_B_winter_10, e_B_winter_11, e_B_winter_14, e_B_winter_15, e_B_winter_16, e_B_winter_19, e_B_winter_20, e_B_winter_23, e_B_winter_24, e_B_winter_27, e_B_winter_28, e_B_winter_31, e_B_winter_32, e_B_winter_35, e_B_winter_36, e_B_winter_37, e_B_winter_40, e_B_winter_41, e_B_winter_42, e_B_winter_43, e_B_winter_46, e_B_winter_47, e_B_winter_52, e_B_winter_53, e_B_winter_56, e_B_winter_57, e_B_winter_58, e_B_winter_59, e_B_winter_62, e_B_winter_63, e_B_winter_66, e_B_winter_69, e_B_winter_70, e_B_winter_71, e_B_winter_74, e_B_winter_75, e_B_winter_76, e_B_winter_79, e_B_winter_80, e_B_winter_83, e_B_winter_86, sh_o_0, sh_r_0_0, sh_r_0_1, sh_r_0_3, sh_r_0_6, sh_o_1, ef, en, hlt, hlen, c1, c2, h0, aa, ki, wi, pk2, a3, o1, f3, z0, z1, z2, z3, nI_1, b2_t, wA, wH, pm_opt_some, pm_opt_none, pm_opt_if, Bool.false_eq_true, Bool.not_false, Bool.not_true, if_false, if_true, true_and, and_true, true_or, or_true, not_true_eq_false, not_false_eq_true, q10, q00, q01, q11, pk_v, pk_i, pk_l, pk_r]
end P76
