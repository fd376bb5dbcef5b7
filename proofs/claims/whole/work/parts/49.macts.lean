/-! ACTS of the reference, and the pair (printed by wip/whole/gen_acts.py) -/
def NM (I : Nat → Nat → Int32) (F : Nat → Int32) (r : Nat) : Nat → Nat → Int32 := pm_w (pm_up I 118 F) 82 53 (nI r)
section P49
variable {X : pm_X} {d : Nat} {P Q : pm_O → Prop} {g : List pm_S} {I I' I1 : Nat → Nat → Int32} {J : Nat → Nat → Int64} {e r j : Nat} {c v x y b : Int32} {F : Nat → Int32}
theorem NM_82 : NM I F r 82 = upd (I 82) 53 (nI r) := by
  unfold NM
  rw [pw_eq, pu_ne (by decide)]
theorem NM_rd {q : Nat} (h : ¬ q = 82) (h2 : ¬ q = 118) : NM I F r q = I q := by
  unfold NM
  rw [pw_ne h, pu_ne h2]
theorem NM_w : pm_w (NM I F r) 118 r b = pm_w (pm_up I 118 (upd F r b)) 82 53 (nI r) := by
  unfold NM
  funext q k
  simp only [pm_w_app]
  unfold pm_up upd
  by_cases h : q = 118
  · subst h
    simp only [Nat.reduceEqDiff, false_and, if_false, if_true, true_and]
  · simp only [h, false_and, if_false]
theorem NM_w2 {z : Int32} : pm_w (pm_w (pm_up I 118 F) 82 53 z) 82 53 (nI r) = NM I F r := by
  unfold NM
  funext q k
  simp only [pm_w_app]
  by_cases h : q = 82 ∧ k = 53
  · simp only [h, and_self, if_true]
  · simp only [h, if_false]
theorem K_M_body (hr : r < 20) : pm_cl X (d + 1) 174 [.ref 82, .int b] (pm_S0 ++ g, NM I F r, J) P = P (none, (pm_S0 ++ g, NM I (upd F r b) (r + 1), J)) := by
  have hb := bad_nI (k := r) (n := 20) hr (by decide)
  have hc := nI_clamp (n := r) (by omega)
  have h20 : ((20 : Int32) ≤ nI r) = False := by
    rw [show (20 : Int32) = nI 20 from rfl, nI_le_l (by omega) (by omega)]
    exact eq_false (by omega)
  have e1 : NM I F r 82 53 = nI r := by rw [NM_82, upd_app, if_pos rfl]
  have e2 : pm_w (pm_up I 118 (upd F r b)) 82 53 (nI r) 82 53 = nI r := by rw [pw_eq, upd_app, if_pos rfl]
  refine K_of (k := 0) (fun d' => ?_)
  show pm_V X d' 174 0 [some (.ref 82), some (.int b)] [] (pm_S0 ++ g, NM I F r, J) _
  simp only [e_M_body_0, e_M_body_1, e_M_body_4, e_M_body_6, e_M_body_9, e_M_body_10, e_M_body_13, e_M_body_14, e_M_body_17, e_M_body_18, e_M_body_19, e_M_body_20, e_M_body_21, e_M_body_24, e_M_body_25, e_M_body_26, e_M_body_29, sh_o_82, sh_r_82_54, sh_w_118, e1, h20, hb, hc, NM_w, e2, nI_1, NM_w2, pm_opt_some, pm_opt_none, pm_opt_if, Bool.false_eq_true, Bool.not_false, Bool.not_true, if_false, if_true, true_and, and_true, true_or, or_true, not_true_eq_false, not_false_eq_true, q10, q00, q01, q11, pk_v, pk_i, pk_l, pk_r]
theorem K_M_pF (x : Int32) (F : Nat → Int32) (hr : r + 1 ≤ 20) : pm_cl X (d + 2) 175 [.ref 82, .int c, .int x] (pm_S0 ++ g, NM I F r, J) P = P (some (.int (x + c)), (pm_S0 ++ g, NM I (apL F r [10]) (r + 1), J)) := by
  refine K_of (k := 1) (fun d' => ?_)
  show pm_V X (d' + 1) 175 0 [some (.ref 82), some (.int c), some (.int x)] [] (pm_S0 ++ g, NM I F r, J) _
  simp only [e_M_plainFreezes_0, e_M_plainFreezes_1, e_M_plainFreezes_3, e_M_plainFreezes_6, e_M_plainFreezes_7, e_M_plainFreezes_8, e_M_plainFreezes_9, sh_o_82, K_M_body (show r < 20 by omega), pm_opt_some, pm_opt_none, pm_opt_if, Bool.false_eq_true, Bool.not_false, Bool.not_true, if_false, if_true, true_and, and_true, true_or, or_true, not_true_eq_false, not_false_eq_true, q10, q00, q01, q11, pk_v, pk_i, pk_l, pk_r]
  rfl
theorem K_M_fr0 (hj : j < 16) (hk : I 87 j = 0) (hv : I 88 j = v) (hc : c = nI j) (x : Int32) (F : Nat → Int32) (hr : r + 1 ≤ 20) : pm_cl X (d + 3) 176 [.ref 82, .int (nI j), .int x] (pm_S0 ++ g, NM I F r, J) P = P (some (.int (x + c)), (pm_S0 ++ g, NM I (apL F r [10]) (r + 1), J)) := by
  subst hc
  have hb := bad_nI (k := j) (n := 16) hj (by decide)
  have hcc := nI_clamp (n := j) (by omega)
  have ek : ∀ F r, NM I F r 87 j = 0 := fun F r => by rw [NM_rd (by decide) (by decide)]; exact hk
  have ev : ∀ F r, NM I F r 88 j = v := fun F r => by rw [NM_rd (by decide) (by decide)]; exact hv
  have u0 : ∀ (d : Nat) (P : pm_O → Prop), pm_cl X (d + 2) 175 [.ref 82, .int (nI j), .int (x)] (pm_S0 ++ g, NM I (apL F r []) (r + 0), J) P = P (some (.int (x + (nI j))), (pm_S0 ++ g, NM I (apL F r [10]) (r + 1), J)) := fun d P => K_M_pF (d := d + 0) (c := nI j) (x) (apL F r []) (r := r + 0) (by omega)
  refine K_of (k := 2) (fun d' => ?_)
  show pm_V X (d' + 2) 176 0 [some (.ref 82), some (.int (nI j)), some (.int x)] [] (pm_S0 ++ g, NM I F r, J) _
  have hx : (0 : Int32).toInt < 2 ∨ 6 < (0 : Int32).toInt := by decide
  rw [show F = apL F r [] from rfl, show (pm_S0 ++ g, NM I (apL F r []) r, J) = (pm_S0 ++ g, NM I (apL F r []) (r + 0), J) from rfl]
  simp only [e_M_freezesAct_0, e_M_freezesAct_1, e_M_freezesAct_4, e_M_freezesAct_5, e_M_freezesAct_40, e_M_freezesAct_41, e_M_freezesAct_43, e_M_freezesAct_46, e_M_freezesAct_47, e_M_freezesAct_48, e_M_freezesAct_49, e_M_freezesAct_50, e_M_freezesAct_51, e_M_freezesAct_54, e_M_freezesAct_55, e_M_freezesAct_56, e_M_freezesAct_58, e_M_freezesAct_61, e_M_freezesAct_62, e_M_freezesAct_63, e_M_freezesAct_64, e_M_freezesAct_67, e_M_freezesAct_68, e_M_freezesAct_69, e_M_freezesAct_70, e_M_freezesAct_72, e_M_freezesAct_75, e_M_freezesAct_76, e_M_freezesAct_78, e_M_freezesAct_81, e_M_freezesAct_82, e_M_freezesAct_83, e_M_freezesAct_84, e_M_freezesAct_87, e_M_freezesAct_88, e_M_freezesAct_89, e_M_freezesAct_92, e_M_freezesAct_93, e_M_freezesAct_94, e_M_freezesAct_95, e_M_freezesAct_96, e_M_freezesAct_97, e_M_freezesAct_98, e_M_freezesAct_99, e_M_freezesAct_102, e_M_freezesAct_6_d hx, sh_o_82, sh_r_82_6, sh_r_82_7, sh_i_87, sh_i_88, hb, hcc, ek, ev, u0, pm_opt_some, pm_opt_none, pm_opt_if, Bool.false_eq_true, Bool.not_false, Bool.not_true, if_false, if_true, true_and, and_true, true_or, or_true, not_true_eq_false, not_false_eq_true, q10, q00, q01, q11, pk_v, pk_i, pk_l, pk_r]
  try rfl
theorem K_M_pG0 (hj : j < 16) (hk : I 87 j = 0) (hv : I 88 j = v) (hc : c = nI j) (x : Int32) (F : Nat → Int32) (hr : r + 2 ≤ 20) : pm_cl X (d + 4) 177 [.ref 82, .int (nI j), .int x] (pm_S0 ++ g, NM I F r, J) P = P (some (.int ((x + c) - v)), (pm_S0 ++ g, NM I (apL F r [11, 10]) (r + 2), J)) := by
  subst hc
  have hb := bad_nI (k := j) (n := 16) hj (by decide)
  have hcc := nI_clamp (n := j) (by omega)
  have ek : ∀ F r, NM I F r 87 j = 0 := fun F r => by rw [NM_rd (by decide) (by decide)]; exact hk
  have ev : ∀ F r, NM I F r 88 j = v := fun F r => by rw [NM_rd (by decide) (by decide)]; exact hv
  have u0 : ∀ (d : Nat) (P : pm_O → Prop), pm_cl X (d + 3) 174 [.ref 82, .int 11] (pm_S0 ++ g, NM I (apL F r []) (r + 0), J) P = P (none, (pm_S0 ++ g, NM I (apL F r [11]) (r + 1), J)) := fun d P => K_M_body (d := d + 2) (by omega)
  have u1 : ∀ (d : Nat) (P : pm_O → Prop), pm_cl X (d + 3) 176 [.ref 82, .int (nI j), .int (x)] (pm_S0 ++ g, NM I (apL F r [11]) (r + 1), J) P = P (some (.int (x + (nI j))), (pm_S0 ++ g, NM I (apL F r [11, 10]) (r + 2), J)) := fun d P => K_M_fr0 (d := d + 0) hj hk hv rfl (x) (apL F r [11]) (r := r + 1) (by omega)
  refine K_of (k := 3) (fun d' => ?_)
  show pm_V X (d' + 3) 177 0 [some (.ref 82), some (.int (nI j)), some (.int x)] [] (pm_S0 ++ g, NM I F r, J) _
  rw [show F = apL F r [] from rfl, show (pm_S0 ++ g, NM I (apL F r []) r, J) = (pm_S0 ++ g, NM I (apL F r []) (r + 0), J) from rfl]
  simp only [e_M_plainGoes_0, e_M_plainGoes_1, e_M_plainGoes_3, e_M_plainGoes_6, e_M_plainGoes_7, e_M_plainGoes_8, e_M_plainGoes_9, e_M_plainGoes_12, e_M_plainGoes_13, e_M_plainGoes_16, e_M_plainGoes_17, e_M_plainGoes_18, e_M_plainGoes_19, sh_o_82, sh_r_82_6, sh_r_82_7, sh_i_87, sh_i_88, hb, hcc, ek, ev, u0, u1, pm_opt_some, pm_opt_none, pm_opt_if, Bool.false_eq_true, Bool.not_false, Bool.not_true, if_false, if_true, true_and, and_true, true_or, or_true, not_true_eq_false, not_false_eq_true, q10, q00, q01, q11, pk_v, pk_i, pk_l, pk_r]
  try rfl
theorem K_M_go0 (hj : j < 16) (hk : I 87 j = 0) (hv : I 88 j = v) (hc : c = nI j) (x : Int32) (F : Nat → Int32) (hr : r + 2 ≤ 20) : pm_cl X (d + 6) 179 [.ref 82, .int (nI j), .int x] (pm_S0 ++ g, NM I F r, J) P = P (some (.int ((x + c) - v)), (pm_S0 ++ g, NM I (apL F r [11, 10]) (r + 2), J)) := by
  subst hc
  have hb := bad_nI (k := j) (n := 16) hj (by decide)
  have hcc := nI_clamp (n := j) (by omega)
  have ek : ∀ F r, NM I F r 87 j = 0 := fun F r => by rw [NM_rd (by decide) (by decide)]; exact hk
  have ev : ∀ F r, NM I F r 88 j = v := fun F r => by rw [NM_rd (by decide) (by decide)]; exact hv
  have u0 : ∀ (d : Nat) (P : pm_O → Prop), pm_cl X (d + 5) 177 [.ref 82, .int (nI j), .int (x)] (pm_S0 ++ g, NM I (apL F r []) (r + 0), J) P = P (some (.int ((x + (nI j)) - v)), (pm_S0 ++ g, NM I (apL F r [11, 10]) (r + 2), J)) := fun d P => K_M_pG0 (d := d + 1) hj hk hv rfl (x) (apL F r []) (r := r + 0) (by omega)
  refine K_of (k := 5) (fun d' => ?_)
  show pm_V X (d' + 5) 179 0 [some (.ref 82), some (.int (nI j)), some (.int x), none] [] (pm_S0 ++ g, NM I F r, J) _
  have x1 : ¬ (0 : Int32) = 1 := by decide
  have x3 : ¬ (0 : Int32) = 3 := by decide
  have x6 : ¬ (0 : Int32) = 6 := by decide
  rw [show F = apL F r [] from rfl, show (pm_S0 ++ g, NM I (apL F r []) r, J) = (pm_S0 ++ g, NM I (apL F r []) (r + 0), J) from rfl]
  simp only [e_M_goesAct_0, e_M_goesAct_1, e_M_goesAct_4, e_M_goesAct_5, e_M_goesAct_40, e_M_goesAct_41, e_M_goesAct_43, e_M_goesAct_46, e_M_goesAct_47, e_M_goesAct_48, e_M_goesAct_49, e_M_goesAct_52, e_M_goesAct_54, e_M_goesAct_55, e_M_goesAct_56, e_M_goesAct_57, e_M_goesAct_58, e_M_goesAct_59, e_M_goesAct_62, e_M_goesAct_63, e_M_goesAct_64, e_M_goesAct_66, e_M_goesAct_69, e_M_goesAct_70, e_M_goesAct_71, e_M_goesAct_72, e_M_goesAct_75, e_M_goesAct_76, e_M_goesAct_77, e_M_goesAct_79, e_M_goesAct_82, e_M_goesAct_83, e_M_goesAct_84, e_M_goesAct_85, e_M_goesAct_86, e_M_goesAct_89, e_M_goesAct_90, e_M_goesAct_91, e_M_goesAct_92, e_M_goesAct_93, e_M_goesAct_94, e_M_goesAct_97, e_M_goesAct_6_d x1 x3 x6, sh_o_82, sh_r_82_6, sh_r_82_7, sh_i_87, sh_i_88, hb, hcc, ek, ev, u0, pm_opt_some, pm_opt_none, pm_opt_if, Bool.false_eq_true, Bool.not_false, Bool.not_true, if_false, if_true, true_and, and_true, true_or, or_true, not_true_eq_false, not_false_eq_true, q10, q00, q01, q11, pk_v, pk_i, pk_l, pk_r]
  try rfl
theorem K_M_pT0 (hj : j < 16) (hk : I 87 j = 0) (hv : I 88 j = v) (hc : c = nI j) (x : Int32) (F : Nat → Int32) (hr : r + 3 ≤ 20) : pm_cl X (d + 7) 180 [.ref 82, .int (nI j), .int x] (pm_S0 ++ g, NM I F r, J) P = P (some (.int (((x + c) - v) * 2)), (pm_S0 ++ g, NM I (apL F r [12, 11, 10]) (r + 3), J)) := by
  subst hc
  have hb := bad_nI (k := j) (n := 16) hj (by decide)
  have hcc := nI_clamp (n := j) (by omega)
  have ek : ∀ F r, NM I F r 87 j = 0 := fun F r => by rw [NM_rd (by decide) (by decide)]; exact hk
  have ev : ∀ F r, NM I F r 88 j = v := fun F r => by rw [NM_rd (by decide) (by decide)]; exact hv
  have u0 : ∀ (d : Nat) (P : pm_O → Prop), pm_cl X (d + 6) 174 [.ref 82, .int 12] (pm_S0 ++ g, NM I (apL F r []) (r + 0), J) P = P (none, (pm_S0 ++ g, NM I (apL F r [12]) (r + 1), J)) := fun d P => K_M_body (d := d + 5) (by omega)
  have u1 : ∀ (d : Nat) (P : pm_O → Prop), pm_cl X (d + 6) 179 [.ref 82, .int (nI j), .int (x)] (pm_S0 ++ g, NM I (apL F r [12]) (r + 1), J) P = P (some (.int ((x + (nI j)) - v)), (pm_S0 ++ g, NM I (apL F r [12, 11, 10]) (r + 3), J)) := fun d P => K_M_go0 (d := d + 0) hj hk hv rfl (x) (apL F r [12]) (r := r + 1) (by omega)
  refine K_of (k := 6) (fun d' => ?_)
  show pm_V X (d' + 6) 180 0 [some (.ref 82), some (.int (nI j)), some (.int x)] [] (pm_S0 ++ g, NM I F r, J) _
  rw [show F = apL F r [] from rfl, show (pm_S0 ++ g, NM I (apL F r []) r, J) = (pm_S0 ++ g, NM I (apL F r []) (r + 0), J) from rfl]
  simp only [e_M_plainTells_0, e_M_plainTells_1, e_M_plainTells_3, e_M_plainTells_6, e_M_plainTells_7, e_M_plainTells_8, e_M_plainTells_9, e_M_plainTells_12, e_M_plainTells_13, e_M_plainTells_14, sh_o_82, sh_r_82_6, sh_r_82_7, sh_i_87, sh_i_88, hb, hcc, ek, ev, u0, u1, pm_opt_some, pm_opt_none, pm_opt_if, Bool.false_eq_true, Bool.not_false, Bool.not_true, if_false, if_true, true_and, and_true, true_or, or_true, not_true_eq_false, not_false_eq_true, q10, q00, q01, q11, pk_v, pk_i, pk_l, pk_r]
  try rfl
theorem K_M_te0 (hj : j < 16) (hk : I 87 j = 0) (hv : I 88 j = v) (hc : c = nI j) (x : Int32) (F : Nat → Int32) (hr : r + 3 ≤ 20) : pm_cl X (d + 8) 181 [.ref 82, .int (nI j), .int x] (pm_S0 ++ g, NM I F r, J) P = P (some (.int (((x + c) - v) * 2)), (pm_S0 ++ g, NM I (apL F r [12, 11, 10]) (r + 3), J)) := by
  subst hc
  have hb := bad_nI (k := j) (n := 16) hj (by decide)
  have hcc := nI_clamp (n := j) (by omega)
  have ek : ∀ F r, NM I F r 87 j = 0 := fun F r => by rw [NM_rd (by decide) (by decide)]; exact hk
  have ev : ∀ F r, NM I F r 88 j = v := fun F r => by rw [NM_rd (by decide) (by decide)]; exact hv
  have u0 : ∀ (d : Nat) (P : pm_O → Prop), pm_cl X (d + 7) 180 [.ref 82, .int (nI j), .int (x)] (pm_S0 ++ g, NM I (apL F r []) (r + 0), J) P = P (some (.int (((x + (nI j)) - v) * 2)), (pm_S0 ++ g, NM I (apL F r [12, 11, 10]) (r + 3), J)) := fun d P => K_M_pT0 (d := d + 0) hj hk hv rfl (x) (apL F r []) (r := r + 0) (by omega)
  refine K_of (k := 7) (fun d' => ?_)
  show pm_V X (d' + 7) 181 0 [some (.ref 82), some (.int (nI j)), some (.int x), none] [] (pm_S0 ++ g, NM I F r, J) _
  have x4 : ¬ (0 : Int32) = 4 := by decide
  have x5 : ¬ (0 : Int32) = 5 := by decide
  rw [show F = apL F r [] from rfl, show (pm_S0 ++ g, NM I (apL F r []) r, J) = (pm_S0 ++ g, NM I (apL F r []) (r + 0), J) from rfl]
  simp only [e_M_tellsAct_0, e_M_tellsAct_1, e_M_tellsAct_4, e_M_tellsAct_5, e_M_tellsAct_32, e_M_tellsAct_33, e_M_tellsAct_35, e_M_tellsAct_38, e_M_tellsAct_39, e_M_tellsAct_40, e_M_tellsAct_41, e_M_tellsAct_44, e_M_tellsAct_45, e_M_tellsAct_46, e_M_tellsAct_47, e_M_tellsAct_48, e_M_tellsAct_49, e_M_tellsAct_52, e_M_tellsAct_53, e_M_tellsAct_54, e_M_tellsAct_55, e_M_tellsAct_57, e_M_tellsAct_60, e_M_tellsAct_61, e_M_tellsAct_62, e_M_tellsAct_63, e_M_tellsAct_64, e_M_tellsAct_65, e_M_tellsAct_68, e_M_tellsAct_69, e_M_tellsAct_70, e_M_tellsAct_71, e_M_tellsAct_72, e_M_tellsAct_75, e_M_tellsAct_6_d x4 x5, sh_o_82, sh_r_82_6, sh_r_82_7, sh_i_87, sh_i_88, hb, hcc, ek, ev, u0, pm_opt_some, pm_opt_none, pm_opt_if, Bool.false_eq_true, Bool.not_false, Bool.not_true, if_false, if_true, true_and, and_true, true_or, or_true, not_true_eq_false, not_false_eq_true, q10, q00, q01, q11, pk_v, pk_i, pk_l, pk_r]
  try rfl
theorem K_M_fr1 (hj : j < 16) (hk : I 87 j = 1) (hv : I 88 j = v) (hc : c = nI j) (x : Int32) (F : Nat → Int32) (hr : r + 1 ≤ 20) : pm_cl X (d + 3) 176 [.ref 82, .int (nI j), .int x] (pm_S0 ++ g, NM I F r, J) P = P (some (.int (x + c)), (pm_S0 ++ g, NM I (apL F r [10]) (r + 1), J)) := by
  subst hc
  have hb := bad_nI (k := j) (n := 16) hj (by decide)
  have hcc := nI_clamp (n := j) (by omega)
  have ek : ∀ F r, NM I F r 87 j = 1 := fun F r => by rw [NM_rd (by decide) (by decide)]; exact hk
  have ev : ∀ F r, NM I F r 88 j = v := fun F r => by rw [NM_rd (by decide) (by decide)]; exact hv
  have u0 : ∀ (d : Nat) (P : pm_O → Prop), pm_cl X (d + 2) 175 [.ref 82, .int (nI j), .int (x)] (pm_S0 ++ g, NM I (apL F r []) (r + 0), J) P = P (some (.int (x + (nI j))), (pm_S0 ++ g, NM I (apL F r [10]) (r + 1), J)) := fun d P => K_M_pF (d := d + 0) (c := nI j) (x) (apL F r []) (r := r + 0) (by omega)
  refine K_of (k := 2) (fun d' => ?_)
  show pm_V X (d' + 2) 176 0 [some (.ref 82), some (.int (nI j)), some (.int x)] [] (pm_S0 ++ g, NM I F r, J) _
  have hx : (1 : Int32).toInt < 2 ∨ 6 < (1 : Int32).toInt := by decide
  rw [show F = apL F r [] from rfl, show (pm_S0 ++ g, NM I (apL F r []) r, J) = (pm_S0 ++ g, NM I (apL F r []) (r + 0), J) from rfl]
  simp only [e_M_freezesAct_0, e_M_freezesAct_1, e_M_freezesAct_4, e_M_freezesAct_5, e_M_freezesAct_40, e_M_freezesAct_41, e_M_freezesAct_43, e_M_freezesAct_46, e_M_freezesAct_47, e_M_freezesAct_48, e_M_freezesAct_49, e_M_freezesAct_50, e_M_freezesAct_51, e_M_freezesAct_54, e_M_freezesAct_55, e_M_freezesAct_56, e_M_freezesAct_58, e_M_freezesAct_61, e_M_freezesAct_62, e_M_freezesAct_63, e_M_freezesAct_64, e_M_freezesAct_67, e_M_freezesAct_68, e_M_freezesAct_69, e_M_freezesAct_70, e_M_freezesAct_72, e_M_freezesAct_75, e_M_freezesAct_76, e_M_freezesAct_78, e_M_freezesAct_81, e_M_freezesAct_82, e_M_freezesAct_83, e_M_freezesAct_84, e_M_freezesAct_87, e_M_freezesAct_88, e_M_freezesAct_89, e_M_freezesAct_92, e_M_freezesAct_93, e_M_freezesAct_94, e_M_freezesAct_95, e_M_freezesAct_96, e_M_freezesAct_97, e_M_freezesAct_98, e_M_freezesAct_99, e_M_freezesAct_102, e_M_freezesAct_6_d hx, sh_o_82, sh_r_82_6, sh_r_82_7, sh_i_87, sh_i_88, hb, hcc, ek, ev, u0, pm_opt_some, pm_opt_none, pm_opt_if, Bool.false_eq_true, Bool.not_false, Bool.not_true, if_false, if_true, true_and, and_true, true_or, or_true, not_true_eq_false, not_false_eq_true, q10, q00, q01, q11, pk_v, pk_i, pk_l, pk_r]
  try rfl
theorem K_M_pG1 (hj : j < 16) (hk : I 87 j = 1) (hv : I 88 j = v) (hc : c = nI j) (x : Int32) (F : Nat → Int32) (hr : r + 2 ≤ 20) : pm_cl X (d + 4) 177 [.ref 82, .int (nI j), .int x] (pm_S0 ++ g, NM I F r, J) P = P (some (.int ((x + c) - v)), (pm_S0 ++ g, NM I (apL F r [11, 10]) (r + 2), J)) := by
  subst hc
  have hb := bad_nI (k := j) (n := 16) hj (by decide)
  have hcc := nI_clamp (n := j) (by omega)
  have ek : ∀ F r, NM I F r 87 j = 1 := fun F r => by rw [NM_rd (by decide) (by decide)]; exact hk
  have ev : ∀ F r, NM I F r 88 j = v := fun F r => by rw [NM_rd (by decide) (by decide)]; exact hv
  have u0 : ∀ (d : Nat) (P : pm_O → Prop), pm_cl X (d + 3) 174 [.ref 82, .int 11] (pm_S0 ++ g, NM I (apL F r []) (r + 0), J) P = P (none, (pm_S0 ++ g, NM I (apL F r [11]) (r + 1), J)) := fun d P => K_M_body (d := d + 2) (by omega)
  have u1 : ∀ (d : Nat) (P : pm_O → Prop), pm_cl X (d + 3) 176 [.ref 82, .int (nI j), .int (x)] (pm_S0 ++ g, NM I (apL F r [11]) (r + 1), J) P = P (some (.int (x + (nI j))), (pm_S0 ++ g, NM I (apL F r [11, 10]) (r + 2), J)) := fun d P => K_M_fr1 (d := d + 0) hj hk hv rfl (x) (apL F r [11]) (r := r + 1) (by omega)
  refine K_of (k := 3) (fun d' => ?_)
  show pm_V X (d' + 3) 177 0 [some (.ref 82), some (.int (nI j)), some (.int x)] [] (pm_S0 ++ g, NM I F r, J) _
  rw [show F = apL F r [] from rfl, show (pm_S0 ++ g, NM I (apL F r []) r, J) = (pm_S0 ++ g, NM I (apL F r []) (r + 0), J) from rfl]
  simp only [e_M_plainGoes_0, e_M_plainGoes_1, e_M_plainGoes_3, e_M_plainGoes_6, e_M_plainGoes_7, e_M_plainGoes_8, e_M_plainGoes_9, e_M_plainGoes_12, e_M_plainGoes_13, e_M_plainGoes_16, e_M_plainGoes_17, e_M_plainGoes_18, e_M_plainGoes_19, sh_o_82, sh_r_82_6, sh_r_82_7, sh_i_87, sh_i_88, hb, hcc, ek, ev, u0, u1, pm_opt_some, pm_opt_none, pm_opt_if, Bool.false_eq_true, Bool.not_false, Bool.not_true, if_false, if_true, true_and, and_true, true_or, or_true, not_true_eq_false, not_false_eq_true, q10, q00, q01, q11, pk_v, pk_i, pk_l, pk_r]
  try rfl
theorem K_M_go1 (hj : j < 16) (hk : I 87 j = 1) (hv : I 88 j = v) (hc : c = nI j) (x : Int32) (F : Nat → Int32) (hr : r + 3 ≤ 20) : pm_cl X (d + 6) 179 [.ref 82, .int (nI j), .int x] (pm_S0 ++ g, NM I F r, J) P = P (some (.int (((x + c) - v) ^^^ 6)), (pm_S0 ++ g, NM I (apL F r [20, 11, 10]) (r + 3), J)) := by
  subst hc
  have hb := bad_nI (k := j) (n := 16) hj (by decide)
  have hcc := nI_clamp (n := j) (by omega)
  have ek : ∀ F r, NM I F r 87 j = 1 := fun F r => by rw [NM_rd (by decide) (by decide)]; exact hk
  have ev : ∀ F r, NM I F r 88 j = v := fun F r => by rw [NM_rd (by decide) (by decide)]; exact hv
  have u0 : ∀ (d : Nat) (P : pm_O → Prop), pm_cl X (d + 5) 174 [.ref 82, .int 20] (pm_S0 ++ g, NM I (apL F r []) (r + 0), J) P = P (none, (pm_S0 ++ g, NM I (apL F r [20]) (r + 1), J)) := fun d P => K_M_body (d := d + 4) (by omega)
  have u1 : ∀ (d : Nat) (P : pm_O → Prop), pm_cl X (d + 5) 177 [.ref 82, .int (nI j), .int (x)] (pm_S0 ++ g, NM I (apL F r [20]) (r + 1), J) P = P (some (.int ((x + (nI j)) - v)), (pm_S0 ++ g, NM I (apL F r [20, 11, 10]) (r + 3), J)) := fun d P => K_M_pG1 (d := d + 1) hj hk hv rfl (x) (apL F r [20]) (r := r + 1) (by omega)
  refine K_of (k := 5) (fun d' => ?_)
  show pm_V X (d' + 5) 179 0 [some (.ref 82), some (.int (nI j)), some (.int x), none] [] (pm_S0 ++ g, NM I F r, J) _
  rw [show F = apL F r [] from rfl, show (pm_S0 ++ g, NM I (apL F r []) r, J) = (pm_S0 ++ g, NM I (apL F r []) (r + 0), J) from rfl]
  simp only [e_M_goesAct_0, e_M_goesAct_1, e_M_goesAct_4, e_M_goesAct_5, e_M_goesAct_6_c1, e_M_goesAct_6_c3, e_M_goesAct_6_c6, e_M_goesAct_6_d, e_M_goesAct_40, e_M_goesAct_41, e_M_goesAct_43, e_M_goesAct_46, e_M_goesAct_47, e_M_goesAct_48, e_M_goesAct_49, e_M_goesAct_52, e_M_goesAct_54, e_M_goesAct_55, e_M_goesAct_56, e_M_goesAct_57, e_M_goesAct_58, e_M_goesAct_59, e_M_goesAct_62, e_M_goesAct_63, e_M_goesAct_64, e_M_goesAct_66, e_M_goesAct_69, e_M_goesAct_70, e_M_goesAct_71, e_M_goesAct_72, e_M_goesAct_75, e_M_goesAct_76, e_M_goesAct_77, e_M_goesAct_79, e_M_goesAct_82, e_M_goesAct_83, e_M_goesAct_84, e_M_goesAct_85, e_M_goesAct_86, e_M_goesAct_89, e_M_goesAct_90, e_M_goesAct_91, e_M_goesAct_92, e_M_goesAct_93, e_M_goesAct_94, e_M_goesAct_97, sh_o_82, sh_r_82_6, sh_r_82_7, sh_i_87, sh_i_88, hb, hcc, ek, ev, u0, u1, pm_opt_some, pm_opt_none, pm_opt_if, Bool.false_eq_true, Bool.not_false, Bool.not_true, if_false, if_true, true_and, and_true, true_or, or_true, not_true_eq_false, not_false_eq_true, q10, q00, q01, q11, pk_v, pk_i, pk_l, pk_r]
  try rfl
theorem K_M_pT1 (hj : j < 16) (hk : I 87 j = 1) (hv : I 88 j = v) (hc : c = nI j) (x : Int32) (F : Nat → Int32) (hr : r + 4 ≤ 20) : pm_cl X (d + 7) 180 [.ref 82, .int (nI j), .int x] (pm_S0 ++ g, NM I F r, J) P = P (some (.int ((((x + c) - v) ^^^ 6) * 2)), (pm_S0 ++ g, NM I (apL F r [12, 20, 11, 10]) (r + 4), J)) := by
  subst hc
  have hb := bad_nI (k := j) (n := 16) hj (by decide)
  have hcc := nI_clamp (n := j) (by omega)
  have ek : ∀ F r, NM I F r 87 j = 1 := fun F r => by rw [NM_rd (by decide) (by decide)]; exact hk
  have ev : ∀ F r, NM I F r 88 j = v := fun F r => by rw [NM_rd (by decide) (by decide)]; exact hv
  have u0 : ∀ (d : Nat) (P : pm_O → Prop), pm_cl X (d + 6) 174 [.ref 82, .int 12] (pm_S0 ++ g, NM I (apL F r []) (r + 0), J) P = P (none, (pm_S0 ++ g, NM I (apL F r [12]) (r + 1), J)) := fun d P => K_M_body (d := d + 5) (by omega)
  have u1 : ∀ (d : Nat) (P : pm_O → Prop), pm_cl X (d + 6) 179 [.ref 82, .int (nI j), .int (x)] (pm_S0 ++ g, NM I (apL F r [12]) (r + 1), J) P = P (some (.int (((x + (nI j)) - v) ^^^ 6)), (pm_S0 ++ g, NM I (apL F r [12, 20, 11, 10]) (r + 4), J)) := fun d P => K_M_go1 (d := d + 0) hj hk hv rfl (x) (apL F r [12]) (r := r + 1) (by omega)
  refine K_of (k := 6) (fun d' => ?_)
  show pm_V X (d' + 6) 180 0 [some (.ref 82), some (.int (nI j)), some (.int x)] [] (pm_S0 ++ g, NM I F r, J) _
  rw [show F = apL F r [] from rfl, show (pm_S0 ++ g, NM I (apL F r []) r, J) = (pm_S0 ++ g, NM I (apL F r []) (r + 0), J) from rfl]
  simp only [e_M_plainTells_0, e_M_plainTells_1, e_M_plainTells_3, e_M_plainTells_6, e_M_plainTells_7, e_M_plainTells_8, e_M_plainTells_9, e_M_plainTells_12, e_M_plainTells_13, e_M_plainTells_14, sh_o_82, sh_r_82_6, sh_r_82_7, sh_i_87, sh_i_88, hb, hcc, ek, ev, u0, u1, pm_opt_some, pm_opt_none, pm_opt_if, Bool.false_eq_true, Bool.not_false, Bool.not_true, if_false, if_true, true_and, and_true, true_or, or_true, not_true_eq_false, not_false_eq_true, q10, q00, q01, q11, pk_v, pk_i, pk_l, pk_r]
  try rfl
theorem K_M_te1 (hj : j < 16) (hk : I 87 j = 1) (hv : I 88 j = v) (hc : c = nI j) (x : Int32) (F : Nat → Int32) (hr : r + 4 ≤ 20) : pm_cl X (d + 8) 181 [.ref 82, .int (nI j), .int x] (pm_S0 ++ g, NM I F r, J) P = P (some (.int ((((x + c) - v) ^^^ 6) * 2)), (pm_S0 ++ g, NM I (apL F r [12, 20, 11, 10]) (r + 4), J)) := by
  subst hc
  have hb := bad_nI (k := j) (n := 16) hj (by decide)
  have hcc := nI_clamp (n := j) (by omega)
  have ek : ∀ F r, NM I F r 87 j = 1 := fun F r => by rw [NM_rd (by decide) (by decide)]; exact hk
  have ev : ∀ F r, NM I F r 88 j = v := fun F r => by rw [NM_rd (by decide) (by decide)]; exact hv
  have u0 : ∀ (d : Nat) (P : pm_O → Prop), pm_cl X (d + 7) 180 [.ref 82, .int (nI j), .int (x)] (pm_S0 ++ g, NM I (apL F r []) (r + 0), J) P = P (some (.int ((((x + (nI j)) - v) ^^^ 6) * 2)), (pm_S0 ++ g, NM I (apL F r [12, 20, 11, 10]) (r + 4), J)) := fun d P => K_M_pT1 (d := d + 0) hj hk hv rfl (x) (apL F r []) (r := r + 0) (by omega)
  refine K_of (k := 7) (fun d' => ?_)
  show pm_V X (d' + 7) 181 0 [some (.ref 82), some (.int (nI j)), some (.int x), none] [] (pm_S0 ++ g, NM I F r, J) _
  have x4 : ¬ (1 : Int32) = 4 := by decide
  have x5 : ¬ (1 : Int32) = 5 := by decide
  rw [show F = apL F r [] from rfl, show (pm_S0 ++ g, NM I (apL F r []) r, J) = (pm_S0 ++ g, NM I (apL F r []) (r + 0), J) from rfl]
  simp only [e_M_tellsAct_0, e_M_tellsAct_1, e_M_tellsAct_4, e_M_tellsAct_5, e_M_tellsAct_32, e_M_tellsAct_33, e_M_tellsAct_35, e_M_tellsAct_38, e_M_tellsAct_39, e_M_tellsAct_40, e_M_tellsAct_41, e_M_tellsAct_44, e_M_tellsAct_45, e_M_tellsAct_46, e_M_tellsAct_47, e_M_tellsAct_48, e_M_tellsAct_49, e_M_tellsAct_52, e_M_tellsAct_53, e_M_tellsAct_54, e_M_tellsAct_55, e_M_tellsAct_57, e_M_tellsAct_60, e_M_tellsAct_61, e_M_tellsAct_62, e_M_tellsAct_63, e_M_tellsAct_64, e_M_tellsAct_65, e_M_tellsAct_68, e_M_tellsAct_69, e_M_tellsAct_70, e_M_tellsAct_71, e_M_tellsAct_72, e_M_tellsAct_75, e_M_tellsAct_6_d x4 x5, sh_o_82, sh_r_82_6, sh_r_82_7, sh_i_87, sh_i_88, hb, hcc, ek, ev, u0, pm_opt_some, pm_opt_none, pm_opt_if, Bool.false_eq_true, Bool.not_false, Bool.not_true, if_false, if_true, true_and, and_true, true_or, or_true, not_true_eq_false, not_false_eq_true, q10, q00, q01, q11, pk_v, pk_i, pk_l, pk_r]
  try rfl
theorem K_M_fr2 (hj : j < 16) (hk : I 87 j = 2) (hv : I 88 j = v) (hc : c = nI j) (x : Int32) (F : Nat → Int32) (hr : r + 2 ≤ 20) : pm_cl X (d + 3) 176 [.ref 82, .int (nI j), .int x] (pm_S0 ++ g, NM I F r, J) P = P (some (.int (x * 3 + c)), (pm_S0 ++ g, NM I (apL F r [30, 10]) (r + 2), J)) := by
  subst hc
  have hb := bad_nI (k := j) (n := 16) hj (by decide)
  have hcc := nI_clamp (n := j) (by omega)
  have ek : ∀ F r, NM I F r 87 j = 2 := fun F r => by rw [NM_rd (by decide) (by decide)]; exact hk
  have ev : ∀ F r, NM I F r 88 j = v := fun F r => by rw [NM_rd (by decide) (by decide)]; exact hv
  have u0 : ∀ (d : Nat) (P : pm_O → Prop), pm_cl X (d + 2) 174 [.ref 82, .int 30] (pm_S0 ++ g, NM I (apL F r []) (r + 0), J) P = P (none, (pm_S0 ++ g, NM I (apL F r [30]) (r + 1), J)) := fun d P => K_M_body (d := d + 1) (by omega)
  have u1 : ∀ (d : Nat) (P : pm_O → Prop), pm_cl X (d + 2) 175 [.ref 82, .int (nI j), .int (x * 3)] (pm_S0 ++ g, NM I (apL F r [30]) (r + 1), J) P = P (some (.int (x * 3 + (nI j))), (pm_S0 ++ g, NM I (apL F r [30, 10]) (r + 2), J)) := fun d P => K_M_pF (d := d + 0) (c := nI j) (x * 3) (apL F r [30]) (r := r + 1) (by omega)
  refine K_of (k := 2) (fun d' => ?_)
  show pm_V X (d' + 2) 176 0 [some (.ref 82), some (.int (nI j)), some (.int x)] [] (pm_S0 ++ g, NM I F r, J) _
  rw [show F = apL F r [] from rfl, show (pm_S0 ++ g, NM I (apL F r []) r, J) = (pm_S0 ++ g, NM I (apL F r []) (r + 0), J) from rfl]
  simp only [e_M_freezesAct_0, e_M_freezesAct_1, e_M_freezesAct_4, e_M_freezesAct_5, e_M_freezesAct_6_c2, e_M_freezesAct_6_c3, e_M_freezesAct_6_c4, e_M_freezesAct_6_c5, e_M_freezesAct_6_c6, e_M_freezesAct_6_d, e_M_freezesAct_40, e_M_freezesAct_41, e_M_freezesAct_43, e_M_freezesAct_46, e_M_freezesAct_47, e_M_freezesAct_48, e_M_freezesAct_49, e_M_freezesAct_50, e_M_freezesAct_51, e_M_freezesAct_54, e_M_freezesAct_55, e_M_freezesAct_56, e_M_freezesAct_58, e_M_freezesAct_61, e_M_freezesAct_62, e_M_freezesAct_63, e_M_freezesAct_64, e_M_freezesAct_67, e_M_freezesAct_68, e_M_freezesAct_69, e_M_freezesAct_70, e_M_freezesAct_72, e_M_freezesAct_75, e_M_freezesAct_76, e_M_freezesAct_78, e_M_freezesAct_81, e_M_freezesAct_82, e_M_freezesAct_83, e_M_freezesAct_84, e_M_freezesAct_87, e_M_freezesAct_88, e_M_freezesAct_89, e_M_freezesAct_92, e_M_freezesAct_93, e_M_freezesAct_94, e_M_freezesAct_95, e_M_freezesAct_96, e_M_freezesAct_97, e_M_freezesAct_98, e_M_freezesAct_99, e_M_freezesAct_102, sh_o_82, sh_r_82_6, sh_r_82_7, sh_i_87, sh_i_88, hb, hcc, ek, ev, u0, u1, pm_opt_some, pm_opt_none, pm_opt_if, Bool.false_eq_true, Bool.not_false, Bool.not_true, if_false, if_true, true_and, and_true, true_or, or_true, not_true_eq_false, not_false_eq_true, q10, q00, q01, q11, pk_v, pk_i, pk_l, pk_r]
  try rfl
theorem K_M_pG2 (hj : j < 16) (hk : I 87 j = 2) (hv : I 88 j = v) (hc : c = nI j) (x : Int32) (F : Nat → Int32) (hr : r + 3 ≤ 20) : pm_cl X (d + 4) 177 [.ref 82, .int (nI j), .int x] (pm_S0 ++ g, NM I F r, J) P = P (some (.int ((x * 3 + c) - v)), (pm_S0 ++ g, NM I (apL F r [11, 30, 10]) (r + 3), J)) := by
  subst hc
  have hb := bad_nI (k := j) (n := 16) hj (by decide)
  have hcc := nI_clamp (n := j) (by omega)
  have ek : ∀ F r, NM I F r 87 j = 2 := fun F r => by rw [NM_rd (by decide) (by decide)]; exact hk
  have ev : ∀ F r, NM I F r 88 j = v := fun F r => by rw [NM_rd (by decide) (by decide)]; exact hv
  have u0 : ∀ (d : Nat) (P : pm_O → Prop), pm_cl X (d + 3) 174 [.ref 82, .int 11] (pm_S0 ++ g, NM I (apL F r []) (r + 0), J) P = P (none, (pm_S0 ++ g, NM I (apL F r [11]) (r + 1), J)) := fun d P => K_M_body (d := d + 2) (by omega)
  have u1 : ∀ (d : Nat) (P : pm_O → Prop), pm_cl X (d + 3) 176 [.ref 82, .int (nI j), .int (x)] (pm_S0 ++ g, NM I (apL F r [11]) (r + 1), J) P = P (some (.int (x * 3 + (nI j))), (pm_S0 ++ g, NM I (apL F r [11, 30, 10]) (r + 3), J)) := fun d P => K_M_fr2 (d := d + 0) hj hk hv rfl (x) (apL F r [11]) (r := r + 1) (by omega)
  refine K_of (k := 3) (fun d' => ?_)
  show pm_V X (d' + 3) 177 0 [some (.ref 82), some (.int (nI j)), some (.int x)] [] (pm_S0 ++ g, NM I F r, J) _
  rw [show F = apL F r [] from rfl, show (pm_S0 ++ g, NM I (apL F r []) r, J) = (pm_S0 ++ g, NM I (apL F r []) (r + 0), J) from rfl]
  simp only [e_M_plainGoes_0, e_M_plainGoes_1, e_M_plainGoes_3, e_M_plainGoes_6, e_M_plainGoes_7, e_M_plainGoes_8, e_M_plainGoes_9, e_M_plainGoes_12, e_M_plainGoes_13, e_M_plainGoes_16, e_M_plainGoes_17, e_M_plainGoes_18, e_M_plainGoes_19, sh_o_82, sh_r_82_6, sh_r_82_7, sh_i_87, sh_i_88, hb, hcc, ek, ev, u0, u1, pm_opt_some, pm_opt_none, pm_opt_if, Bool.false_eq_true, Bool.not_false, Bool.not_true, if_false, if_true, true_and, and_true, true_or, or_true, not_true_eq_false, not_false_eq_true, q10, q00, q01, q11, pk_v, pk_i, pk_l, pk_r]
  try rfl
theorem K_M_go2 (hj : j < 16) (hk : I 87 j = 2) (hv : I 88 j = v) (hc : c = nI j) (x : Int32) (F : Nat → Int32) (hr : r + 3 ≤ 20) : pm_cl X (d + 6) 179 [.ref 82, .int (nI j), .int x] (pm_S0 ++ g, NM I F r, J) P = P (some (.int ((x * 3 + c) - v)), (pm_S0 ++ g, NM I (apL F r [11, 30, 10]) (r + 3), J)) := by
  subst hc
  have hb := bad_nI (k := j) (n := 16) hj (by decide)
  have hcc := nI_clamp (n := j) (by omega)
  have ek : ∀ F r, NM I F r 87 j = 2 := fun F r => by rw [NM_rd (by decide) (by decide)]; exact hk
  have ev : ∀ F r, NM I F r 88 j = v := fun F r => by rw [NM_rd (by decide) (by decide)]; exact hv
  have u0 : ∀ (d : Nat) (P : pm_O → Prop), pm_cl X (d + 5) 177 [.ref 82, .int (nI j), .int (x)] (pm_S0 ++ g, NM I (apL F r []) (r + 0), J) P = P (some (.int ((x * 3 + (nI j)) - v)), (pm_S0 ++ g, NM I (apL F r [11, 30, 10]) (r + 3), J)) := fun d P => K_M_pG2 (d := d + 1) hj hk hv rfl (x) (apL F r []) (r := r + 0) (by omega)
  refine K_of (k := 5) (fun d' => ?_)
  show pm_V X (d' + 5) 179 0 [some (.ref 82), some (.int (nI j)), some (.int x), none] [] (pm_S0 ++ g, NM I F r, J) _
  have x1 : ¬ (2 : Int32) = 1 := by decide
  have x3 : ¬ (2 : Int32) = 3 := by decide
  have x6 : ¬ (2 : Int32) = 6 := by decide
  rw [show F = apL F r [] from rfl, show (pm_S0 ++ g, NM I (apL F r []) r, J) = (pm_S0 ++ g, NM I (apL F r []) (r + 0), J) from rfl]
  simp only [e_M_goesAct_0, e_M_goesAct_1, e_M_goesAct_4, e_M_goesAct_5, e_M_goesAct_40, e_M_goesAct_41, e_M_goesAct_43, e_M_goesAct_46, e_M_goesAct_47, e_M_goesAct_48, e_M_goesAct_49, e_M_goesAct_52, e_M_goesAct_54, e_M_goesAct_55, e_M_goesAct_56, e_M_goesAct_57, e_M_goesAct_58, e_M_goesAct_59, e_M_goesAct_62, e_M_goesAct_63, e_M_goesAct_64, e_M_goesAct_66, e_M_goesAct_69, e_M_goesAct_70, e_M_goesAct_71, e_M_goesAct_72, e_M_goesAct_75, e_M_goesAct_76, e_M_goesAct_77, e_M_goesAct_79, e_M_goesAct_82, e_M_goesAct_83, e_M_goesAct_84, e_M_goesAct_85, e_M_goesAct_86, e_M_goesAct_89, e_M_goesAct_90, e_M_goesAct_91, e_M_goesAct_92, e_M_goesAct_93, e_M_goesAct_94, e_M_goesAct_97, e_M_goesAct_6_d x1 x3 x6, sh_o_82, sh_r_82_6, sh_r_82_7, sh_i_87, sh_i_88, hb, hcc, ek, ev, u0, pm_opt_some, pm_opt_none, pm_opt_if, Bool.false_eq_true, Bool.not_false, Bool.not_true, if_false, if_true, true_and, and_true, true_or, or_true, not_true_eq_false, not_false_eq_true, q10, q00, q01, q11, pk_v, pk_i, pk_l, pk_r]
  try rfl
theorem K_M_pT2 (hj : j < 16) (hk : I 87 j = 2) (hv : I 88 j = v) (hc : c = nI j) (x : Int32) (F : Nat → Int32) (hr : r + 4 ≤ 20) : pm_cl X (d + 7) 180 [.ref 82, .int (nI j), .int x] (pm_S0 ++ g, NM I F r, J) P = P (some (.int (((x * 3 + c) - v) * 2)), (pm_S0 ++ g, NM I (apL F r [12, 11, 30, 10]) (r + 4), J)) := by
  subst hc
  have hb := bad_nI (k := j) (n := 16) hj (by decide)
  have hcc := nI_clamp (n := j) (by omega)
  have ek : ∀ F r, NM I F r 87 j = 2 := fun F r => by rw [NM_rd (by decide) (by decide)]; exact hk
  have ev : ∀ F r, NM I F r 88 j = v := fun F r => by rw [NM_rd (by decide) (by decide)]; exact hv
  have u0 : ∀ (d : Nat) (P : pm_O → Prop), pm_cl X (d + 6) 174 [.ref 82, .int 12] (pm_S0 ++ g, NM I (apL F r []) (r + 0), J) P = P (none, (pm_S0 ++ g, NM I (apL F r [12]) (r + 1), J)) := fun d P => K_M_body (d := d + 5) (by omega)
  have u1 : ∀ (d : Nat) (P : pm_O → Prop), pm_cl X (d + 6) 179 [.ref 82, .int (nI j), .int (x)] (pm_S0 ++ g, NM I (apL F r [12]) (r + 1), J) P = P (some (.int ((x * 3 + (nI j)) - v)), (pm_S0 ++ g, NM I (apL F r [12, 11, 30, 10]) (r + 4), J)) := fun d P => K_M_go2 (d := d + 0) hj hk hv rfl (x) (apL F r [12]) (r := r + 1) (by omega)
  refine K_of (k := 6) (fun d' => ?_)
  show pm_V X (d' + 6) 180 0 [some (.ref 82), some (.int (nI j)), some (.int x)] [] (pm_S0 ++ g, NM I F r, J) _
  rw [show F = apL F r [] from rfl, show (pm_S0 ++ g, NM I (apL F r []) r, J) = (pm_S0 ++ g, NM I (apL F r []) (r + 0), J) from rfl]
  simp only [e_M_plainTells_0, e_M_plainTells_1, e_M_plainTells_3, e_M_plainTells_6, e_M_plainTells_7, e_M_plainTells_8, e_M_plainTells_9, e_M_plainTells_12, e_M_plainTells_13, e_M_plainTells_14, sh_o_82, sh_r_82_6, sh_r_82_7, sh_i_87, sh_i_88, hb, hcc, ek, ev, u0, u1, pm_opt_some, pm_opt_none, pm_opt_if, Bool.false_eq_true, Bool.not_false, Bool.not_true, if_false, if_true, true_and, and_true, true_or, or_true, not_true_eq_false, not_false_eq_true, q10, q00, q01, q11, pk_v, pk_i, pk_l, pk_r]
  try rfl
theorem K_M_te2 (hj : j < 16) (hk : I 87 j = 2) (hv : I 88 j = v) (hc : c = nI j) (x : Int32) (F : Nat → Int32) (hr : r + 4 ≤ 20) : pm_cl X (d + 8) 181 [.ref 82, .int (nI j), .int x] (pm_S0 ++ g, NM I F r, J) P = P (some (.int (((x * 3 + c) - v) * 2)), (pm_S0 ++ g, NM I (apL F r [12, 11, 30, 10]) (r + 4), J)) := by
  subst hc
  have hb := bad_nI (k := j) (n := 16) hj (by decide)
  have hcc := nI_clamp (n := j) (by omega)
  have ek : ∀ F r, NM I F r 87 j = 2 := fun F r => by rw [NM_rd (by decide) (by decide)]; exact hk
  have ev : ∀ F r, NM I F r 88 j = v := fun F r => by rw [NM_rd (by decide) (by decide)]; exact hv
  have u0 : ∀ (d : Nat) (P : pm_O → Prop), pm_cl X (d + 7) 180 [.ref 82, .int (nI j), .int (x)] (pm_S0 ++ g, NM I (apL F r []) (r + 0), J) P = P (some (.int (((x * 3 + (nI j)) - v) * 2)), (pm_S0 ++ g, NM I (apL F r [12, 11, 30, 10]) (r + 4), J)) := fun d P => K_M_pT2 (d := d + 0) hj hk hv rfl (x) (apL F r []) (r := r + 0) (by omega)
  refine K_of (k := 7) (fun d' => ?_)
  show pm_V X (d' + 7) 181 0 [some (.ref 82), some (.int (nI j)), some (.int x), none] [] (pm_S0 ++ g, NM I F r, J) _
  have x4 : ¬ (2 : Int32) = 4 := by decide
  have x5 : ¬ (2 : Int32) = 5 := by decide
  rw [show F = apL F r [] from rfl, show (pm_S0 ++ g, NM I (apL F r []) r, J) = (pm_S0 ++ g, NM I (apL F r []) (r + 0), J) from rfl]
  simp only [e_M_tellsAct_0, e_M_tellsAct_1, e_M_tellsAct_4, e_M_tellsAct_5, e_M_tellsAct_32, e_M_tellsAct_33, e_M_tellsAct_35, e_M_tellsAct_38, e_M_tellsAct_39, e_M_tellsAct_40, e_M_tellsAct_41, e_M_tellsAct_44, e_M_tellsAct_45, e_M_tellsAct_46, e_M_tellsAct_47, e_M_tellsAct_48, e_M_tellsAct_49, e_M_tellsAct_52, e_M_tellsAct_53, e_M_tellsAct_54, e_M_tellsAct_55, e_M_tellsAct_57, e_M_tellsAct_60, e_M_tellsAct_61, e_M_tellsAct_62, e_M_tellsAct_63, e_M_tellsAct_64, e_M_tellsAct_65, e_M_tellsAct_68, e_M_tellsAct_69, e_M_tellsAct_70, e_M_tellsAct_71, e_M_tellsAct_72, e_M_tellsAct_75, e_M_tellsAct_6_d x4 x5, sh_o_82, sh_r_82_6, sh_r_82_7, sh_i_87, sh_i_88, hb, hcc, ek, ev, u0, pm_opt_some, pm_opt_none, pm_opt_if, Bool.false_eq_true, Bool.not_false, Bool.not_true, if_false, if_true, true_and, and_true, true_or, or_true, not_true_eq_false, not_false_eq_true, q10, q00, q01, q11, pk_v, pk_i, pk_l, pk_r]
  try rfl
theorem K_M_fr3 (hj : j < 16) (hk : I 87 j = 3) (hv : I 88 j = v) (hc : c = nI j) (x : Int32) (F : Nat → Int32) (hr : r + 2 ≤ 20) : pm_cl X (d + 3) 176 [.ref 82, .int (nI j), .int x] (pm_S0 ++ g, NM I F r, J) P = P (some (.int (-(x + c))), (pm_S0 ++ g, NM I (apL F r [50, 10]) (r + 2), J)) := by
  subst hc
  have hb := bad_nI (k := j) (n := 16) hj (by decide)
  have hcc := nI_clamp (n := j) (by omega)
  have ek : ∀ F r, NM I F r 87 j = 3 := fun F r => by rw [NM_rd (by decide) (by decide)]; exact hk
  have ev : ∀ F r, NM I F r 88 j = v := fun F r => by rw [NM_rd (by decide) (by decide)]; exact hv
  have u0 : ∀ (d : Nat) (P : pm_O → Prop), pm_cl X (d + 2) 174 [.ref 82, .int 50] (pm_S0 ++ g, NM I (apL F r []) (r + 0), J) P = P (none, (pm_S0 ++ g, NM I (apL F r [50]) (r + 1), J)) := fun d P => K_M_body (d := d + 1) (by omega)
  have u1 : ∀ (d : Nat) (P : pm_O → Prop), pm_cl X (d + 2) 175 [.ref 82, .int (nI j), .int (x)] (pm_S0 ++ g, NM I (apL F r [50]) (r + 1), J) P = P (some (.int (x + (nI j))), (pm_S0 ++ g, NM I (apL F r [50, 10]) (r + 2), J)) := fun d P => K_M_pF (d := d + 0) (c := nI j) (x) (apL F r [50]) (r := r + 1) (by omega)
  refine K_of (k := 2) (fun d' => ?_)
  show pm_V X (d' + 2) 176 0 [some (.ref 82), some (.int (nI j)), some (.int x)] [] (pm_S0 ++ g, NM I F r, J) _
  rw [show F = apL F r [] from rfl, show (pm_S0 ++ g, NM I (apL F r []) r, J) = (pm_S0 ++ g, NM I (apL F r []) (r + 0), J) from rfl]
  simp only [e_M_freezesAct_0, e_M_freezesAct_1, e_M_freezesAct_4, e_M_freezesAct_5, e_M_freezesAct_6_c2, e_M_freezesAct_6_c3, e_M_freezesAct_6_c4, e_M_freezesAct_6_c5, e_M_freezesAct_6_c6, e_M_freezesAct_6_d, e_M_freezesAct_40, e_M_freezesAct_41, e_M_freezesAct_43, e_M_freezesAct_46, e_M_freezesAct_47, e_M_freezesAct_48, e_M_freezesAct_49, e_M_freezesAct_50, e_M_freezesAct_51, e_M_freezesAct_54, e_M_freezesAct_55, e_M_freezesAct_56, e_M_freezesAct_58, e_M_freezesAct_61, e_M_freezesAct_62, e_M_freezesAct_63, e_M_freezesAct_64, e_M_freezesAct_67, e_M_freezesAct_68, e_M_freezesAct_69, e_M_freezesAct_70, e_M_freezesAct_72, e_M_freezesAct_75, e_M_freezesAct_76, e_M_freezesAct_78, e_M_freezesAct_81, e_M_freezesAct_82, e_M_freezesAct_83, e_M_freezesAct_84, e_M_freezesAct_87, e_M_freezesAct_88, e_M_freezesAct_89, e_M_freezesAct_92, e_M_freezesAct_93, e_M_freezesAct_94, e_M_freezesAct_95, e_M_freezesAct_96, e_M_freezesAct_97, e_M_freezesAct_98, e_M_freezesAct_99, e_M_freezesAct_102, sh_o_82, sh_r_82_6, sh_r_82_7, sh_i_87, sh_i_88, hb, hcc, ek, ev, u0, u1, pm_opt_some, pm_opt_none, pm_opt_if, Bool.false_eq_true, Bool.not_false, Bool.not_true, if_false, if_true, true_and, and_true, true_or, or_true, not_true_eq_false, not_false_eq_true, q10, q00, q01, q11, pk_v, pk_i, pk_l, pk_r]
  try rfl
theorem K_M_pG3 (hj : j < 16) (hk : I 87 j = 3) (hv : I 88 j = v) (hc : c = nI j) (x : Int32) (F : Nat → Int32) (hr : r + 3 ≤ 20) : pm_cl X (d + 4) 177 [.ref 82, .int (nI j), .int x] (pm_S0 ++ g, NM I F r, J) P = P (some (.int ((-(x + c)) - v)), (pm_S0 ++ g, NM I (apL F r [11, 50, 10]) (r + 3), J)) := by
  subst hc
  have hb := bad_nI (k := j) (n := 16) hj (by decide)
  have hcc := nI_clamp (n := j) (by omega)
  have ek : ∀ F r, NM I F r 87 j = 3 := fun F r => by rw [NM_rd (by decide) (by decide)]; exact hk
  have ev : ∀ F r, NM I F r 88 j = v := fun F r => by rw [NM_rd (by decide) (by decide)]; exact hv
  have u0 : ∀ (d : Nat) (P : pm_O → Prop), pm_cl X (d + 3) 174 [.ref 82, .int 11] (pm_S0 ++ g, NM I (apL F r []) (r + 0), J) P = P (none, (pm_S0 ++ g, NM I (apL F r [11]) (r + 1), J)) := fun d P => K_M_body (d := d + 2) (by omega)
  have u1 : ∀ (d : Nat) (P : pm_O → Prop), pm_cl X (d + 3) 176 [.ref 82, .int (nI j), .int (x)] (pm_S0 ++ g, NM I (apL F r [11]) (r + 1), J) P = P (some (.int (-(x + (nI j)))), (pm_S0 ++ g, NM I (apL F r [11, 50, 10]) (r + 3), J)) := fun d P => K_M_fr3 (d := d + 0) hj hk hv rfl (x) (apL F r [11]) (r := r + 1) (by omega)
  refine K_of (k := 3) (fun d' => ?_)
  show pm_V X (d' + 3) 177 0 [some (.ref 82), some (.int (nI j)), some (.int x)] [] (pm_S0 ++ g, NM I F r, J) _
  rw [show F = apL F r [] from rfl, show (pm_S0 ++ g, NM I (apL F r []) r, J) = (pm_S0 ++ g, NM I (apL F r []) (r + 0), J) from rfl]
  simp only [e_M_plainGoes_0, e_M_plainGoes_1, e_M_plainGoes_3, e_M_plainGoes_6, e_M_plainGoes_7, e_M_plainGoes_8, e_M_plainGoes_9, e_M_plainGoes_12, e_M_plainGoes_13, e_M_plainGoes_16, e_M_plainGoes_17, e_M_plainGoes_18, e_M_plainGoes_19, sh_o_82, sh_r_82_6, sh_r_82_7, sh_i_87, sh_i_88, hb, hcc, ek, ev, u0, u1, pm_opt_some, pm_opt_none, pm_opt_if, Bool.false_eq_true, Bool.not_false, Bool.not_true, if_false, if_true, true_and, and_true, true_or, or_true, not_true_eq_false, not_false_eq_true, q10, q00, q01, q11, pk_v, pk_i, pk_l, pk_r]
  try rfl
theorem K_M_sG3 (hj : j < 16) (hk : I 87 j = 3) (hv : I 88 j = v) (hc : c = nI j) (x : Int32) (F : Nat → Int32) (hr : r + 4 ≤ 20) : pm_cl X (d + 5) 178 [.ref 82, .int (nI j), .int x] (pm_S0 ++ g, NM I F r, J) P = P (some (.int ((-((x + 1) + c)) - v)), (pm_S0 ++ g, NM I (apL F r [51, 11, 50, 10]) (r + 4), J)) := by
  subst hc
  have hb := bad_nI (k := j) (n := 16) hj (by decide)
  have hcc := nI_clamp (n := j) (by omega)
  have ek : ∀ F r, NM I F r 87 j = 3 := fun F r => by rw [NM_rd (by decide) (by decide)]; exact hk
  have ev : ∀ F r, NM I F r 88 j = v := fun F r => by rw [NM_rd (by decide) (by decide)]; exact hv
  have u0 : ∀ (d : Nat) (P : pm_O → Prop), pm_cl X (d + 4) 174 [.ref 82, .int 51] (pm_S0 ++ g, NM I (apL F r []) (r + 0), J) P = P (none, (pm_S0 ++ g, NM I (apL F r [51]) (r + 1), J)) := fun d P => K_M_body (d := d + 3) (by omega)
  have u1 : ∀ (d : Nat) (P : pm_O → Prop), pm_cl X (d + 4) 177 [.ref 82, .int (nI j), .int ((x + 1))] (pm_S0 ++ g, NM I (apL F r [51]) (r + 1), J) P = P (some (.int ((-((x + 1) + (nI j))) - v)), (pm_S0 ++ g, NM I (apL F r [51, 11, 50, 10]) (r + 4), J)) := fun d P => K_M_pG3 (d := d + 0) hj hk hv rfl ((x + 1)) (apL F r [51]) (r := r + 1) (by omega)
  refine K_of (k := 4) (fun d' => ?_)
  show pm_V X (d' + 4) 178 0 [some (.ref 82), some (.int (nI j)), some (.int x)] [] (pm_S0 ++ g, NM I F r, J) _
  rw [show F = apL F r [] from rfl, show (pm_S0 ++ g, NM I (apL F r []) r, J) = (pm_S0 ++ g, NM I (apL F r []) (r + 0), J) from rfl]
  simp only [e_M_sprungGoes_0, e_M_sprungGoes_1, e_M_sprungGoes_3, e_M_sprungGoes_6, e_M_sprungGoes_7, e_M_sprungGoes_8, e_M_sprungGoes_9, e_M_sprungGoes_10, e_M_sprungGoes_11, e_M_sprungGoes_14, sh_o_82, sh_r_82_6, sh_r_82_7, sh_i_87, sh_i_88, hb, hcc, ek, ev, u0, u1, pm_opt_some, pm_opt_none, pm_opt_if, Bool.false_eq_true, Bool.not_false, Bool.not_true, if_false, if_true, true_and, and_true, true_or, or_true, not_true_eq_false, not_false_eq_true, q10, q00, q01, q11, pk_v, pk_i, pk_l, pk_r]
  try rfl
theorem K_M_go3 (hj : j < 16) (hk : I 87 j = 3) (hv : I 88 j = v) (hc : c = nI j) (x : Int32) (F : Nat → Int32) (hr : r + 4 ≤ 20) : pm_cl X (d + 6) 179 [.ref 82, .int (nI j), .int x] (pm_S0 ++ g, NM I F r, J) P = P (some (.int ((-((x + 1) + c)) - v)), (pm_S0 ++ g, NM I (apL F r [51, 11, 50, 10]) (r + 4), J)) := by
  subst hc
  have hb := bad_nI (k := j) (n := 16) hj (by decide)
  have hcc := nI_clamp (n := j) (by omega)
  have ek : ∀ F r, NM I F r 87 j = 3 := fun F r => by rw [NM_rd (by decide) (by decide)]; exact hk
  have ev : ∀ F r, NM I F r 88 j = v := fun F r => by rw [NM_rd (by decide) (by decide)]; exact hv
  have u0 : ∀ (d : Nat) (P : pm_O → Prop), pm_cl X (d + 5) 178 [.ref 82, .int (nI j), .int (x)] (pm_S0 ++ g, NM I (apL F r []) (r + 0), J) P = P (some (.int ((-((x + 1) + (nI j))) - v)), (pm_S0 ++ g, NM I (apL F r [51, 11, 50, 10]) (r + 4), J)) := fun d P => K_M_sG3 (d := d + 0) hj hk hv rfl (x) (apL F r []) (r := r + 0) (by omega)
  refine K_of (k := 5) (fun d' => ?_)
  show pm_V X (d' + 5) 179 0 [some (.ref 82), some (.int (nI j)), some (.int x), none] [] (pm_S0 ++ g, NM I F r, J) _
  rw [show F = apL F r [] from rfl, show (pm_S0 ++ g, NM I (apL F r []) r, J) = (pm_S0 ++ g, NM I (apL F r []) (r + 0), J) from rfl]
  simp only [e_M_goesAct_0, e_M_goesAct_1, e_M_goesAct_4, e_M_goesAct_5, e_M_goesAct_6_c1, e_M_goesAct_6_c3, e_M_goesAct_6_c6, e_M_goesAct_6_d, e_M_goesAct_40, e_M_goesAct_41, e_M_goesAct_43, e_M_goesAct_46, e_M_goesAct_47, e_M_goesAct_48, e_M_goesAct_49, e_M_goesAct_52, e_M_goesAct_54, e_M_goesAct_55, e_M_goesAct_56, e_M_goesAct_57, e_M_goesAct_58, e_M_goesAct_59, e_M_goesAct_62, e_M_goesAct_63, e_M_goesAct_64, e_M_goesAct_66, e_M_goesAct_69, e_M_goesAct_70, e_M_goesAct_71, e_M_goesAct_72, e_M_goesAct_75, e_M_goesAct_76, e_M_goesAct_77, e_M_goesAct_79, e_M_goesAct_82, e_M_goesAct_83, e_M_goesAct_84, e_M_goesAct_85, e_M_goesAct_86, e_M_goesAct_89, e_M_goesAct_90, e_M_goesAct_91, e_M_goesAct_92, e_M_goesAct_93, e_M_goesAct_94, e_M_goesAct_97, sh_o_82, sh_r_82_6, sh_r_82_7, sh_i_87, sh_i_88, hb, hcc, ek, ev, u0, pm_opt_some, pm_opt_none, pm_opt_if, Bool.false_eq_true, Bool.not_false, Bool.not_true, if_false, if_true, true_and, and_true, true_or, or_true, not_true_eq_false, not_false_eq_true, q10, q00, q01, q11, pk_v, pk_i, pk_l, pk_r]
  try rfl
theorem K_M_pT3 (hj : j < 16) (hk : I 87 j = 3) (hv : I 88 j = v) (hc : c = nI j) (x : Int32) (F : Nat → Int32) (hr : r + 5 ≤ 20) : pm_cl X (d + 7) 180 [.ref 82, .int (nI j), .int x] (pm_S0 ++ g, NM I F r, J) P = P (some (.int (((-((x + 1) + c)) - v) * 2)), (pm_S0 ++ g, NM I (apL F r [12, 51, 11, 50, 10]) (r + 5), J)) := by
  subst hc
  have hb := bad_nI (k := j) (n := 16) hj (by decide)
  have hcc := nI_clamp (n := j) (by omega)
  have ek : ∀ F r, NM I F r 87 j = 3 := fun F r => by rw [NM_rd (by decide) (by decide)]; exact hk
  have ev : ∀ F r, NM I F r 88 j = v := fun F r => by rw [NM_rd (by decide) (by decide)]; exact hv
  have u0 : ∀ (d : Nat) (P : pm_O → Prop), pm_cl X (d + 6) 174 [.ref 82, .int 12] (pm_S0 ++ g, NM I (apL F r []) (r + 0), J) P = P (none, (pm_S0 ++ g, NM I (apL F r [12]) (r + 1), J)) := fun d P => K_M_body (d := d + 5) (by omega)
  have u1 : ∀ (d : Nat) (P : pm_O → Prop), pm_cl X (d + 6) 179 [.ref 82, .int (nI j), .int (x)] (pm_S0 ++ g, NM I (apL F r [12]) (r + 1), J) P = P (some (.int ((-((x + 1) + (nI j))) - v)), (pm_S0 ++ g, NM I (apL F r [12, 51, 11, 50, 10]) (r + 5), J)) := fun d P => K_M_go3 (d := d + 0) hj hk hv rfl (x) (apL F r [12]) (r := r + 1) (by omega)
  refine K_of (k := 6) (fun d' => ?_)
  show pm_V X (d' + 6) 180 0 [some (.ref 82), some (.int (nI j)), some (.int x)] [] (pm_S0 ++ g, NM I F r, J) _
  rw [show F = apL F r [] from rfl, show (pm_S0 ++ g, NM I (apL F r []) r, J) = (pm_S0 ++ g, NM I (apL F r []) (r + 0), J) from rfl]
  simp only [e_M_plainTells_0, e_M_plainTells_1, e_M_plainTells_3, e_M_plainTells_6, e_M_plainTells_7, e_M_plainTells_8, e_M_plainTells_9, e_M_plainTells_12, e_M_plainTells_13, e_M_plainTells_14, sh_o_82, sh_r_82_6, sh_r_82_7, sh_i_87, sh_i_88, hb, hcc, ek, ev, u0, u1, pm_opt_some, pm_opt_none, pm_opt_if, Bool.false_eq_true, Bool.not_false, Bool.not_true, if_false, if_true, true_and, and_true, true_or, or_true, not_true_eq_false, not_false_eq_true, q10, q00, q01, q11, pk_v, pk_i, pk_l, pk_r]
  try rfl
theorem K_M_te3 (hj : j < 16) (hk : I 87 j = 3) (hv : I 88 j = v) (hc : c = nI j) (x : Int32) (F : Nat → Int32) (hr : r + 5 ≤ 20) : pm_cl X (d + 8) 181 [.ref 82, .int (nI j), .int x] (pm_S0 ++ g, NM I F r, J) P = P (some (.int (((-((x + 1) + c)) - v) * 2)), (pm_S0 ++ g, NM I (apL F r [12, 51, 11, 50, 10]) (r + 5), J)) := by
  subst hc
  have hb := bad_nI (k := j) (n := 16) hj (by decide)
  have hcc := nI_clamp (n := j) (by omega)
  have ek : ∀ F r, NM I F r 87 j = 3 := fun F r => by rw [NM_rd (by decide) (by decide)]; exact hk
  have ev : ∀ F r, NM I F r 88 j = v := fun F r => by rw [NM_rd (by decide) (by decide)]; exact hv
  have u0 : ∀ (d : Nat) (P : pm_O → Prop), pm_cl X (d + 7) 180 [.ref 82, .int (nI j), .int (x)] (pm_S0 ++ g, NM I (apL F r []) (r + 0), J) P = P (some (.int (((-((x + 1) + (nI j))) - v) * 2)), (pm_S0 ++ g, NM I (apL F r [12, 51, 11, 50, 10]) (r + 5), J)) := fun d P => K_M_pT3 (d := d + 0) hj hk hv rfl (x) (apL F r []) (r := r + 0) (by omega)
  refine K_of (k := 7) (fun d' => ?_)
  show pm_V X (d' + 7) 181 0 [some (.ref 82), some (.int (nI j)), some (.int x), none] [] (pm_S0 ++ g, NM I F r, J) _
  have x4 : ¬ (3 : Int32) = 4 := by decide
  have x5 : ¬ (3 : Int32) = 5 := by decide
  rw [show F = apL F r [] from rfl, show (pm_S0 ++ g, NM I (apL F r []) r, J) = (pm_S0 ++ g, NM I (apL F r []) (r + 0), J) from rfl]
  simp only [e_M_tellsAct_0, e_M_tellsAct_1, e_M_tellsAct_4, e_M_tellsAct_5, e_M_tellsAct_32, e_M_tellsAct_33, e_M_tellsAct_35, e_M_tellsAct_38, e_M_tellsAct_39, e_M_tellsAct_40, e_M_tellsAct_41, e_M_tellsAct_44, e_M_tellsAct_45, e_M_tellsAct_46, e_M_tellsAct_47, e_M_tellsAct_48, e_M_tellsAct_49, e_M_tellsAct_52, e_M_tellsAct_53, e_M_tellsAct_54, e_M_tellsAct_55, e_M_tellsAct_57, e_M_tellsAct_60, e_M_tellsAct_61, e_M_tellsAct_62, e_M_tellsAct_63, e_M_tellsAct_64, e_M_tellsAct_65, e_M_tellsAct_68, e_M_tellsAct_69, e_M_tellsAct_70, e_M_tellsAct_71, e_M_tellsAct_72, e_M_tellsAct_75, e_M_tellsAct_6_d x4 x5, sh_o_82, sh_r_82_6, sh_r_82_7, sh_i_87, sh_i_88, hb, hcc, ek, ev, u0, pm_opt_some, pm_opt_none, pm_opt_if, Bool.false_eq_true, Bool.not_false, Bool.not_true, if_false, if_true, true_and, and_true, true_or, or_true, not_true_eq_false, not_false_eq_true, q10, q00, q01, q11, pk_v, pk_i, pk_l, pk_r]
  try rfl
theorem K_M_fr4 (hj : j < 16) (hk : I 87 j = 4) (hv : I 88 j = v) (hc : c = nI j) (x : Int32) (F : Nat → Int32) (hr : r + 1 ≤ 20) : pm_cl X (d + 3) 176 [.ref 82, .int (nI j), .int x] (pm_S0 ++ g, NM I F r, J) P = P (some (.int (x + c)), (pm_S0 ++ g, NM I (apL F r [10]) (r + 1), J)) := by
  subst hc
  have hb := bad_nI (k := j) (n := 16) hj (by decide)
  have hcc := nI_clamp (n := j) (by omega)
  have ek : ∀ F r, NM I F r 87 j = 4 := fun F r => by rw [NM_rd (by decide) (by decide)]; exact hk
  have ev : ∀ F r, NM I F r 88 j = v := fun F r => by rw [NM_rd (by decide) (by decide)]; exact hv
  have u0 : ∀ (d : Nat) (P : pm_O → Prop), pm_cl X (d + 2) 175 [.ref 82, .int (nI j), .int (x)] (pm_S0 ++ g, NM I (apL F r []) (r + 0), J) P = P (some (.int (x + (nI j))), (pm_S0 ++ g, NM I (apL F r [10]) (r + 1), J)) := fun d P => K_M_pF (d := d + 0) (c := nI j) (x) (apL F r []) (r := r + 0) (by omega)
  refine K_of (k := 2) (fun d' => ?_)
  show pm_V X (d' + 2) 176 0 [some (.ref 82), some (.int (nI j)), some (.int x)] [] (pm_S0 ++ g, NM I F r, J) _
  rw [show F = apL F r [] from rfl, show (pm_S0 ++ g, NM I (apL F r []) r, J) = (pm_S0 ++ g, NM I (apL F r []) (r + 0), J) from rfl]
  simp only [e_M_freezesAct_0, e_M_freezesAct_1, e_M_freezesAct_4, e_M_freezesAct_5, e_M_freezesAct_6_c2, e_M_freezesAct_6_c3, e_M_freezesAct_6_c4, e_M_freezesAct_6_c5, e_M_freezesAct_6_c6, e_M_freezesAct_6_d, e_M_freezesAct_40, e_M_freezesAct_41, e_M_freezesAct_43, e_M_freezesAct_46, e_M_freezesAct_47, e_M_freezesAct_48, e_M_freezesAct_49, e_M_freezesAct_50, e_M_freezesAct_51, e_M_freezesAct_54, e_M_freezesAct_55, e_M_freezesAct_56, e_M_freezesAct_58, e_M_freezesAct_61, e_M_freezesAct_62, e_M_freezesAct_63, e_M_freezesAct_64, e_M_freezesAct_67, e_M_freezesAct_68, e_M_freezesAct_69, e_M_freezesAct_70, e_M_freezesAct_72, e_M_freezesAct_75, e_M_freezesAct_76, e_M_freezesAct_78, e_M_freezesAct_81, e_M_freezesAct_82, e_M_freezesAct_83, e_M_freezesAct_84, e_M_freezesAct_87, e_M_freezesAct_88, e_M_freezesAct_89, e_M_freezesAct_92, e_M_freezesAct_93, e_M_freezesAct_94, e_M_freezesAct_95, e_M_freezesAct_96, e_M_freezesAct_97, e_M_freezesAct_98, e_M_freezesAct_99, e_M_freezesAct_102, sh_o_82, sh_r_82_6, sh_r_82_7, sh_i_87, sh_i_88, hb, hcc, ek, ev, u0, pm_opt_some, pm_opt_none, pm_opt_if, Bool.false_eq_true, Bool.not_false, Bool.not_true, if_false, if_true, true_and, and_true, true_or, or_true, not_true_eq_false, not_false_eq_true, q10, q00, q01, q11, pk_v, pk_i, pk_l, pk_r]
  try rfl
theorem K_M_pG4 (hj : j < 16) (hk : I 87 j = 4) (hv : I 88 j = v) (hc : c = nI j) (x : Int32) (F : Nat → Int32) (hr : r + 2 ≤ 20) : pm_cl X (d + 4) 177 [.ref 82, .int (nI j), .int x] (pm_S0 ++ g, NM I F r, J) P = P (some (.int ((x + c) - v)), (pm_S0 ++ g, NM I (apL F r [11, 10]) (r + 2), J)) := by
  subst hc
  have hb := bad_nI (k := j) (n := 16) hj (by decide)
  have hcc := nI_clamp (n := j) (by omega)
  have ek : ∀ F r, NM I F r 87 j = 4 := fun F r => by rw [NM_rd (by decide) (by decide)]; exact hk
  have ev : ∀ F r, NM I F r 88 j = v := fun F r => by rw [NM_rd (by decide) (by decide)]; exact hv
  have u0 : ∀ (d : Nat) (P : pm_O → Prop), pm_cl X (d + 3) 174 [.ref 82, .int 11] (pm_S0 ++ g, NM I (apL F r []) (r + 0), J) P = P (none, (pm_S0 ++ g, NM I (apL F r [11]) (r + 1), J)) := fun d P => K_M_body (d := d + 2) (by omega)
  have u1 : ∀ (d : Nat) (P : pm_O → Prop), pm_cl X (d + 3) 176 [.ref 82, .int (nI j), .int (x)] (pm_S0 ++ g, NM I (apL F r [11]) (r + 1), J) P = P (some (.int (x + (nI j))), (pm_S0 ++ g, NM I (apL F r [11, 10]) (r + 2), J)) := fun d P => K_M_fr4 (d := d + 0) hj hk hv rfl (x) (apL F r [11]) (r := r + 1) (by omega)
  refine K_of (k := 3) (fun d' => ?_)
  show pm_V X (d' + 3) 177 0 [some (.ref 82), some (.int (nI j)), some (.int x)] [] (pm_S0 ++ g, NM I F r, J) _
  rw [show F = apL F r [] from rfl, show (pm_S0 ++ g, NM I (apL F r []) r, J) = (pm_S0 ++ g, NM I (apL F r []) (r + 0), J) from rfl]
  simp only [e_M_plainGoes_0, e_M_plainGoes_1, e_M_plainGoes_3, e_M_plainGoes_6, e_M_plainGoes_7, e_M_plainGoes_8, e_M_plainGoes_9, e_M_plainGoes_12, e_M_plainGoes_13, e_M_plainGoes_16, e_M_plainGoes_17, e_M_plainGoes_18, e_M_plainGoes_19, sh_o_82, sh_r_82_6, sh_r_82_7, sh_i_87, sh_i_88, hb, hcc, ek, ev, u0, u1, pm_opt_some, pm_opt_none, pm_opt_if, Bool.false_eq_true, Bool.not_false, Bool.not_true, if_false, if_true, true_and, and_true, true_or, or_true, not_true_eq_false, not_false_eq_true, q10, q00, q01, q11, pk_v, pk_i, pk_l, pk_r]
  try rfl
theorem K_M_go4 (hj : j < 16) (hk : I 87 j = 4) (hv : I 88 j = v) (hc : c = nI j) (x : Int32) (F : Nat → Int32) (hr : r + 2 ≤ 20) : pm_cl X (d + 6) 179 [.ref 82, .int (nI j), .int x] (pm_S0 ++ g, NM I F r, J) P = P (some (.int ((x + c) - v)), (pm_S0 ++ g, NM I (apL F r [11, 10]) (r + 2), J)) := by
  subst hc
  have hb := bad_nI (k := j) (n := 16) hj (by decide)
  have hcc := nI_clamp (n := j) (by omega)
  have ek : ∀ F r, NM I F r 87 j = 4 := fun F r => by rw [NM_rd (by decide) (by decide)]; exact hk
  have ev : ∀ F r, NM I F r 88 j = v := fun F r => by rw [NM_rd (by decide) (by decide)]; exact hv
  have u0 : ∀ (d : Nat) (P : pm_O → Prop), pm_cl X (d + 5) 177 [.ref 82, .int (nI j), .int (x)] (pm_S0 ++ g, NM I (apL F r []) (r + 0), J) P = P (some (.int ((x + (nI j)) - v)), (pm_S0 ++ g, NM I (apL F r [11, 10]) (r + 2), J)) := fun d P => K_M_pG4 (d := d + 1) hj hk hv rfl (x) (apL F r []) (r := r + 0) (by omega)
  refine K_of (k := 5) (fun d' => ?_)
  show pm_V X (d' + 5) 179 0 [some (.ref 82), some (.int (nI j)), some (.int x), none] [] (pm_S0 ++ g, NM I F r, J) _
  have x1 : ¬ (4 : Int32) = 1 := by decide
  have x3 : ¬ (4 : Int32) = 3 := by decide
  have x6 : ¬ (4 : Int32) = 6 := by decide
  rw [show F = apL F r [] from rfl, show (pm_S0 ++ g, NM I (apL F r []) r, J) = (pm_S0 ++ g, NM I (apL F r []) (r + 0), J) from rfl]
  simp only [e_M_goesAct_0, e_M_goesAct_1, e_M_goesAct_4, e_M_goesAct_5, e_M_goesAct_40, e_M_goesAct_41, e_M_goesAct_43, e_M_goesAct_46, e_M_goesAct_47, e_M_goesAct_48, e_M_goesAct_49, e_M_goesAct_52, e_M_goesAct_54, e_M_goesAct_55, e_M_goesAct_56, e_M_goesAct_57, e_M_goesAct_58, e_M_goesAct_59, e_M_goesAct_62, e_M_goesAct_63, e_M_goesAct_64, e_M_goesAct_66, e_M_goesAct_69, e_M_goesAct_70, e_M_goesAct_71, e_M_goesAct_72, e_M_goesAct_75, e_M_goesAct_76, e_M_goesAct_77, e_M_goesAct_79, e_M_goesAct_82, e_M_goesAct_83, e_M_goesAct_84, e_M_goesAct_85, e_M_goesAct_86, e_M_goesAct_89, e_M_goesAct_90, e_M_goesAct_91, e_M_goesAct_92, e_M_goesAct_93, e_M_goesAct_94, e_M_goesAct_97, e_M_goesAct_6_d x1 x3 x6, sh_o_82, sh_r_82_6, sh_r_82_7, sh_i_87, sh_i_88, hb, hcc, ek, ev, u0, pm_opt_some, pm_opt_none, pm_opt_if, Bool.false_eq_true, Bool.not_false, Bool.not_true, if_false, if_true, true_and, and_true, true_or, or_true, not_true_eq_false, not_false_eq_true, q10, q00, q01, q11, pk_v, pk_i, pk_l, pk_r]
  try rfl
theorem K_M_pT4 (hj : j < 16) (hk : I 87 j = 4) (hv : I 88 j = v) (hc : c = nI j) (x : Int32) (F : Nat → Int32) (hr : r + 3 ≤ 20) : pm_cl X (d + 7) 180 [.ref 82, .int (nI j), .int x] (pm_S0 ++ g, NM I F r, J) P = P (some (.int (((x + c) - v) * 2)), (pm_S0 ++ g, NM I (apL F r [12, 11, 10]) (r + 3), J)) := by
  subst hc
  have hb := bad_nI (k := j) (n := 16) hj (by decide)
  have hcc := nI_clamp (n := j) (by omega)
  have ek : ∀ F r, NM I F r 87 j = 4 := fun F r => by rw [NM_rd (by decide) (by decide)]; exact hk
  have ev : ∀ F r, NM I F r 88 j = v := fun F r => by rw [NM_rd (by decide) (by decide)]; exact hv
  have u0 : ∀ (d : Nat) (P : pm_O → Prop), pm_cl X (d + 6) 174 [.ref 82, .int 12] (pm_S0 ++ g, NM I (apL F r []) (r + 0), J) P = P (none, (pm_S0 ++ g, NM I (apL F r [12]) (r + 1), J)) := fun d P => K_M_body (d := d + 5) (by omega)
  have u1 : ∀ (d : Nat) (P : pm_O → Prop), pm_cl X (d + 6) 179 [.ref 82, .int (nI j), .int (x)] (pm_S0 ++ g, NM I (apL F r [12]) (r + 1), J) P = P (some (.int ((x + (nI j)) - v)), (pm_S0 ++ g, NM I (apL F r [12, 11, 10]) (r + 3), J)) := fun d P => K_M_go4 (d := d + 0) hj hk hv rfl (x) (apL F r [12]) (r := r + 1) (by omega)
  refine K_of (k := 6) (fun d' => ?_)
  show pm_V X (d' + 6) 180 0 [some (.ref 82), some (.int (nI j)), some (.int x)] [] (pm_S0 ++ g, NM I F r, J) _
  rw [show F = apL F r [] from rfl, show (pm_S0 ++ g, NM I (apL F r []) r, J) = (pm_S0 ++ g, NM I (apL F r []) (r + 0), J) from rfl]
  simp only [e_M_plainTells_0, e_M_plainTells_1, e_M_plainTells_3, e_M_plainTells_6, e_M_plainTells_7, e_M_plainTells_8, e_M_plainTells_9, e_M_plainTells_12, e_M_plainTells_13, e_M_plainTells_14, sh_o_82, sh_r_82_6, sh_r_82_7, sh_i_87, sh_i_88, hb, hcc, ek, ev, u0, u1, pm_opt_some, pm_opt_none, pm_opt_if, Bool.false_eq_true, Bool.not_false, Bool.not_true, if_false, if_true, true_and, and_true, true_or, or_true, not_true_eq_false, not_false_eq_true, q10, q00, q01, q11, pk_v, pk_i, pk_l, pk_r]
  try rfl
theorem K_M_te4 (hj : j < 16) (hk : I 87 j = 4) (hv : I 88 j = v) (hc : c = nI j) (x : Int32) (F : Nat → Int32) (hr : r + 6 ≤ 20) : pm_cl X (d + 8) 181 [.ref 82, .int (nI j), .int x] (pm_S0 ++ g, NM I F r, J) P = P (some (.int ((((x + c) - v) * 2) + ((1 + c) - v))), (pm_S0 ++ g, NM I (apL F r [40, 12, 11, 10, 11, 10]) (r + 6), J)) := by
  subst hc
  have hb := bad_nI (k := j) (n := 16) hj (by decide)
  have hcc := nI_clamp (n := j) (by omega)
  have ek : ∀ F r, NM I F r 87 j = 4 := fun F r => by rw [NM_rd (by decide) (by decide)]; exact hk
  have ev : ∀ F r, NM I F r 88 j = v := fun F r => by rw [NM_rd (by decide) (by decide)]; exact hv
  have u0 : ∀ (d : Nat) (P : pm_O → Prop), pm_cl X (d + 7) 174 [.ref 82, .int 40] (pm_S0 ++ g, NM I (apL F r []) (r + 0), J) P = P (none, (pm_S0 ++ g, NM I (apL F r [40]) (r + 1), J)) := fun d P => K_M_body (d := d + 6) (by omega)
  have u1 : ∀ (d : Nat) (P : pm_O → Prop), pm_cl X (d + 7) 180 [.ref 82, .int (nI j), .int (x)] (pm_S0 ++ g, NM I (apL F r [40]) (r + 1), J) P = P (some (.int (((x + (nI j)) - v) * 2)), (pm_S0 ++ g, NM I (apL F r [40, 12, 11, 10]) (r + 4), J)) := fun d P => K_M_pT4 (d := d + 0) hj hk hv rfl (x) (apL F r [40]) (r := r + 1) (by omega)
  have u2 : ∀ (d : Nat) (P : pm_O → Prop), pm_cl X (d + 7) 179 [.ref 82, .int (nI j), .int (1)] (pm_S0 ++ g, NM I (apL F r [40, 12, 11, 10]) (r + 4), J) P = P (some (.int ((1 + (nI j)) - v)), (pm_S0 ++ g, NM I (apL F r [40, 12, 11, 10, 11, 10]) (r + 6), J)) := fun d P => K_M_go4 (d := d + 1) hj hk hv rfl (1) (apL F r [40, 12, 11, 10]) (r := r + 4) (by omega)
  refine K_of (k := 7) (fun d' => ?_)
  show pm_V X (d' + 7) 181 0 [some (.ref 82), some (.int (nI j)), some (.int x), none] [] (pm_S0 ++ g, NM I F r, J) _
  rw [show F = apL F r [] from rfl, show (pm_S0 ++ g, NM I (apL F r []) r, J) = (pm_S0 ++ g, NM I (apL F r []) (r + 0), J) from rfl]
  simp only [e_M_tellsAct_0, e_M_tellsAct_1, e_M_tellsAct_4, e_M_tellsAct_5, e_M_tellsAct_6_c4, e_M_tellsAct_6_c5, e_M_tellsAct_6_d, e_M_tellsAct_32, e_M_tellsAct_33, e_M_tellsAct_35, e_M_tellsAct_38, e_M_tellsAct_39, e_M_tellsAct_40, e_M_tellsAct_41, e_M_tellsAct_44, e_M_tellsAct_45, e_M_tellsAct_46, e_M_tellsAct_47, e_M_tellsAct_48, e_M_tellsAct_49, e_M_tellsAct_52, e_M_tellsAct_53, e_M_tellsAct_54, e_M_tellsAct_55, e_M_tellsAct_57, e_M_tellsAct_60, e_M_tellsAct_61, e_M_tellsAct_62, e_M_tellsAct_63, e_M_tellsAct_64, e_M_tellsAct_65, e_M_tellsAct_68, e_M_tellsAct_69, e_M_tellsAct_70, e_M_tellsAct_71, e_M_tellsAct_72, e_M_tellsAct_75, sh_o_82, sh_r_82_6, sh_r_82_7, sh_i_87, sh_i_88, hb, hcc, ek, ev, u0, u1, u2, pm_opt_some, pm_opt_none, pm_opt_if, Bool.false_eq_true, Bool.not_false, Bool.not_true, if_false, if_true, true_and, and_true, true_or, or_true, not_true_eq_false, not_false_eq_true, q10, q00, q01, q11, pk_v, pk_i, pk_l, pk_r]
  try rfl
theorem K_M_fr5 (hj : j < 16) (hk : I 87 j = 5) (hv : I 88 j = v) (hc : c = nI j) (x : Int32) (F : Nat → Int32) (hr : r + 2 ≤ 20) : pm_cl X (d + 3) 176 [.ref 82, .int (nI j), .int x] (pm_S0 ++ g, NM I F r, J) P = P (some (.int (x * 3 + c)), (pm_S0 ++ g, NM I (apL F r [30, 10]) (r + 2), J)) := by
  subst hc
  have hb := bad_nI (k := j) (n := 16) hj (by decide)
  have hcc := nI_clamp (n := j) (by omega)
  have ek : ∀ F r, NM I F r 87 j = 5 := fun F r => by rw [NM_rd (by decide) (by decide)]; exact hk
  have ev : ∀ F r, NM I F r 88 j = v := fun F r => by rw [NM_rd (by decide) (by decide)]; exact hv
  have u0 : ∀ (d : Nat) (P : pm_O → Prop), pm_cl X (d + 2) 174 [.ref 82, .int 30] (pm_S0 ++ g, NM I (apL F r []) (r + 0), J) P = P (none, (pm_S0 ++ g, NM I (apL F r [30]) (r + 1), J)) := fun d P => K_M_body (d := d + 1) (by omega)
  have u1 : ∀ (d : Nat) (P : pm_O → Prop), pm_cl X (d + 2) 175 [.ref 82, .int (nI j), .int (x * 3)] (pm_S0 ++ g, NM I (apL F r [30]) (r + 1), J) P = P (some (.int (x * 3 + (nI j))), (pm_S0 ++ g, NM I (apL F r [30, 10]) (r + 2), J)) := fun d P => K_M_pF (d := d + 0) (c := nI j) (x * 3) (apL F r [30]) (r := r + 1) (by omega)
  refine K_of (k := 2) (fun d' => ?_)
  show pm_V X (d' + 2) 176 0 [some (.ref 82), some (.int (nI j)), some (.int x)] [] (pm_S0 ++ g, NM I F r, J) _
  rw [show F = apL F r [] from rfl, show (pm_S0 ++ g, NM I (apL F r []) r, J) = (pm_S0 ++ g, NM I (apL F r []) (r + 0), J) from rfl]
  simp only [e_M_freezesAct_0, e_M_freezesAct_1, e_M_freezesAct_4, e_M_freezesAct_5, e_M_freezesAct_6_c2, e_M_freezesAct_6_c3, e_M_freezesAct_6_c4, e_M_freezesAct_6_c5, e_M_freezesAct_6_c6, e_M_freezesAct_6_d, e_M_freezesAct_40, e_M_freezesAct_41, e_M_freezesAct_43, e_M_freezesAct_46, e_M_freezesAct_47, e_M_freezesAct_48, e_M_freezesAct_49, e_M_freezesAct_50, e_M_freezesAct_51, e_M_freezesAct_54, e_M_freezesAct_55, e_M_freezesAct_56, e_M_freezesAct_58, e_M_freezesAct_61, e_M_freezesAct_62, e_M_freezesAct_63, e_M_freezesAct_64, e_M_freezesAct_67, e_M_freezesAct_68, e_M_freezesAct_69, e_M_freezesAct_70, e_M_freezesAct_72, e_M_freezesAct_75, e_M_freezesAct_76, e_M_freezesAct_78, e_M_freezesAct_81, e_M_freezesAct_82, e_M_freezesAct_83, e_M_freezesAct_84, e_M_freezesAct_87, e_M_freezesAct_88, e_M_freezesAct_89, e_M_freezesAct_92, e_M_freezesAct_93, e_M_freezesAct_94, e_M_freezesAct_95, e_M_freezesAct_96, e_M_freezesAct_97, e_M_freezesAct_98, e_M_freezesAct_99, e_M_freezesAct_102, sh_o_82, sh_r_82_6, sh_r_82_7, sh_i_87, sh_i_88, hb, hcc, ek, ev, u0, u1, pm_opt_some, pm_opt_none, pm_opt_if, Bool.false_eq_true, Bool.not_false, Bool.not_true, if_false, if_true, true_and, and_true, true_or, or_true, not_true_eq_false, not_false_eq_true, q10, q00, q01, q11, pk_v, pk_i, pk_l, pk_r]
  try rfl
theorem K_M_pG5 (hj : j < 16) (hk : I 87 j = 5) (hv : I 88 j = v) (hc : c = nI j) (x : Int32) (F : Nat → Int32) (hr : r + 3 ≤ 20) : pm_cl X (d + 4) 177 [.ref 82, .int (nI j), .int x] (pm_S0 ++ g, NM I F r, J) P = P (some (.int ((x * 3 + c) - v)), (pm_S0 ++ g, NM I (apL F r [11, 30, 10]) (r + 3), J)) := by
  subst hc
  have hb := bad_nI (k := j) (n := 16) hj (by decide)
  have hcc := nI_clamp (n := j) (by omega)
  have ek : ∀ F r, NM I F r 87 j = 5 := fun F r => by rw [NM_rd (by decide) (by decide)]; exact hk
  have ev : ∀ F r, NM I F r 88 j = v := fun F r => by rw [NM_rd (by decide) (by decide)]; exact hv
  have u0 : ∀ (d : Nat) (P : pm_O → Prop), pm_cl X (d + 3) 174 [.ref 82, .int 11] (pm_S0 ++ g, NM I (apL F r []) (r + 0), J) P = P (none, (pm_S0 ++ g, NM I (apL F r [11]) (r + 1), J)) := fun d P => K_M_body (d := d + 2) (by omega)
  have u1 : ∀ (d : Nat) (P : pm_O → Prop), pm_cl X (d + 3) 176 [.ref 82, .int (nI j), .int (x)] (pm_S0 ++ g, NM I (apL F r [11]) (r + 1), J) P = P (some (.int (x * 3 + (nI j))), (pm_S0 ++ g, NM I (apL F r [11, 30, 10]) (r + 3), J)) := fun d P => K_M_fr5 (d := d + 0) hj hk hv rfl (x) (apL F r [11]) (r := r + 1) (by omega)
  refine K_of (k := 3) (fun d' => ?_)
  show pm_V X (d' + 3) 177 0 [some (.ref 82), some (.int (nI j)), some (.int x)] [] (pm_S0 ++ g, NM I F r, J) _
  rw [show F = apL F r [] from rfl, show (pm_S0 ++ g, NM I (apL F r []) r, J) = (pm_S0 ++ g, NM I (apL F r []) (r + 0), J) from rfl]
  simp only [e_M_plainGoes_0, e_M_plainGoes_1, e_M_plainGoes_3, e_M_plainGoes_6, e_M_plainGoes_7, e_M_plainGoes_8, e_M_plainGoes_9, e_M_plainGoes_12, e_M_plainGoes_13, e_M_plainGoes_16, e_M_plainGoes_17, e_M_plainGoes_18, e_M_plainGoes_19, sh_o_82, sh_r_82_6, sh_r_82_7, sh_i_87, sh_i_88, hb, hcc, ek, ev, u0, u1, pm_opt_some, pm_opt_none, pm_opt_if, Bool.false_eq_true, Bool.not_false, Bool.not_true, if_false, if_true, true_and, and_true, true_or, or_true, not_true_eq_false, not_false_eq_true, q10, q00, q01, q11, pk_v, pk_i, pk_l, pk_r]
  try rfl
theorem K_M_go5 (hj : j < 16) (hk : I 87 j = 5) (hv : I 88 j = v) (hc : c = nI j) (x : Int32) (F : Nat → Int32) (hr : r + 3 ≤ 20) : pm_cl X (d + 6) 179 [.ref 82, .int (nI j), .int x] (pm_S0 ++ g, NM I F r, J) P = P (some (.int ((x * 3 + c) - v)), (pm_S0 ++ g, NM I (apL F r [11, 30, 10]) (r + 3), J)) := by
  subst hc
  have hb := bad_nI (k := j) (n := 16) hj (by decide)
  have hcc := nI_clamp (n := j) (by omega)
  have ek : ∀ F r, NM I F r 87 j = 5 := fun F r => by rw [NM_rd (by decide) (by decide)]; exact hk
  have ev : ∀ F r, NM I F r 88 j = v := fun F r => by rw [NM_rd (by decide) (by decide)]; exact hv
  have u0 : ∀ (d : Nat) (P : pm_O → Prop), pm_cl X (d + 5) 177 [.ref 82, .int (nI j), .int (x)] (pm_S0 ++ g, NM I (apL F r []) (r + 0), J) P = P (some (.int ((x * 3 + (nI j)) - v)), (pm_S0 ++ g, NM I (apL F r [11, 30, 10]) (r + 3), J)) := fun d P => K_M_pG5 (d := d + 1) hj hk hv rfl (x) (apL F r []) (r := r + 0) (by omega)
  refine K_of (k := 5) (fun d' => ?_)
  show pm_V X (d' + 5) 179 0 [some (.ref 82), some (.int (nI j)), some (.int x), none] [] (pm_S0 ++ g, NM I F r, J) _
  have x1 : ¬ (5 : Int32) = 1 := by decide
  have x3 : ¬ (5 : Int32) = 3 := by decide
  have x6 : ¬ (5 : Int32) = 6 := by decide
  rw [show F = apL F r [] from rfl, show (pm_S0 ++ g, NM I (apL F r []) r, J) = (pm_S0 ++ g, NM I (apL F r []) (r + 0), J) from rfl]
  simp only [e_M_goesAct_0, e_M_goesAct_1, e_M_goesAct_4, e_M_goesAct_5, e_M_goesAct_40, e_M_goesAct_41, e_M_goesAct_43, e_M_goesAct_46, e_M_goesAct_47, e_M_goesAct_48, e_M_goesAct_49, e_M_goesAct_52, e_M_goesAct_54, e_M_goesAct_55, e_M_goesAct_56, e_M_goesAct_57, e_M_goesAct_58, e_M_goesAct_59, e_M_goesAct_62, e_M_goesAct_63, e_M_goesAct_64, e_M_goesAct_66, e_M_goesAct_69, e_M_goesAct_70, e_M_goesAct_71, e_M_goesAct_72, e_M_goesAct_75, e_M_goesAct_76, e_M_goesAct_77, e_M_goesAct_79, e_M_goesAct_82, e_M_goesAct_83, e_M_goesAct_84, e_M_goesAct_85, e_M_goesAct_86, e_M_goesAct_89, e_M_goesAct_90, e_M_goesAct_91, e_M_goesAct_92, e_M_goesAct_93, e_M_goesAct_94, e_M_goesAct_97, e_M_goesAct_6_d x1 x3 x6, sh_o_82, sh_r_82_6, sh_r_82_7, sh_i_87, sh_i_88, hb, hcc, ek, ev, u0, pm_opt_some, pm_opt_none, pm_opt_if, Bool.false_eq_true, Bool.not_false, Bool.not_true, if_false, if_true, true_and, and_true, true_or, or_true, not_true_eq_false, not_false_eq_true, q10, q00, q01, q11, pk_v, pk_i, pk_l, pk_r]
  try rfl
theorem K_M_pT5 (hj : j < 16) (hk : I 87 j = 5) (hv : I 88 j = v) (hc : c = nI j) (x : Int32) (F : Nat → Int32) (hr : r + 4 ≤ 20) : pm_cl X (d + 7) 180 [.ref 82, .int (nI j), .int x] (pm_S0 ++ g, NM I F r, J) P = P (some (.int (((x * 3 + c) - v) * 2)), (pm_S0 ++ g, NM I (apL F r [12, 11, 30, 10]) (r + 4), J)) := by
  subst hc
  have hb := bad_nI (k := j) (n := 16) hj (by decide)
  have hcc := nI_clamp (n := j) (by omega)
  have ek : ∀ F r, NM I F r 87 j = 5 := fun F r => by rw [NM_rd (by decide) (by decide)]; exact hk
  have ev : ∀ F r, NM I F r 88 j = v := fun F r => by rw [NM_rd (by decide) (by decide)]; exact hv
  have u0 : ∀ (d : Nat) (P : pm_O → Prop), pm_cl X (d + 6) 174 [.ref 82, .int 12] (pm_S0 ++ g, NM I (apL F r []) (r + 0), J) P = P (none, (pm_S0 ++ g, NM I (apL F r [12]) (r + 1), J)) := fun d P => K_M_body (d := d + 5) (by omega)
  have u1 : ∀ (d : Nat) (P : pm_O → Prop), pm_cl X (d + 6) 179 [.ref 82, .int (nI j), .int (x)] (pm_S0 ++ g, NM I (apL F r [12]) (r + 1), J) P = P (some (.int ((x * 3 + (nI j)) - v)), (pm_S0 ++ g, NM I (apL F r [12, 11, 30, 10]) (r + 4), J)) := fun d P => K_M_go5 (d := d + 0) hj hk hv rfl (x) (apL F r [12]) (r := r + 1) (by omega)
  refine K_of (k := 6) (fun d' => ?_)
  show pm_V X (d' + 6) 180 0 [some (.ref 82), some (.int (nI j)), some (.int x)] [] (pm_S0 ++ g, NM I F r, J) _
  rw [show F = apL F r [] from rfl, show (pm_S0 ++ g, NM I (apL F r []) r, J) = (pm_S0 ++ g, NM I (apL F r []) (r + 0), J) from rfl]
  simp only [e_M_plainTells_0, e_M_plainTells_1, e_M_plainTells_3, e_M_plainTells_6, e_M_plainTells_7, e_M_plainTells_8, e_M_plainTells_9, e_M_plainTells_12, e_M_plainTells_13, e_M_plainTells_14, sh_o_82, sh_r_82_6, sh_r_82_7, sh_i_87, sh_i_88, hb, hcc, ek, ev, u0, u1, pm_opt_some, pm_opt_none, pm_opt_if, Bool.false_eq_true, Bool.not_false, Bool.not_true, if_false, if_true, true_and, and_true, true_or, or_true, not_true_eq_false, not_false_eq_true, q10, q00, q01, q11, pk_v, pk_i, pk_l, pk_r]
  try rfl
theorem K_M_te5 (hj : j < 16) (hk : I 87 j = 5) (hv : I 88 j = v) (hc : c = nI j) (x : Int32) (F : Nat → Int32) (hr : r + 5 ≤ 20) : pm_cl X (d + 8) 181 [.ref 82, .int (nI j), .int x] (pm_S0 ++ g, NM I F r, J) P = P (some (.int ((((x - c) * 3 + c) - v) * 2)), (pm_S0 ++ g, NM I (apL F r [60, 12, 11, 30, 10]) (r + 5), J)) := by
  subst hc
  have hb := bad_nI (k := j) (n := 16) hj (by decide)
  have hcc := nI_clamp (n := j) (by omega)
  have ek : ∀ F r, NM I F r 87 j = 5 := fun F r => by rw [NM_rd (by decide) (by decide)]; exact hk
  have ev : ∀ F r, NM I F r 88 j = v := fun F r => by rw [NM_rd (by decide) (by decide)]; exact hv
  have u0 : ∀ (d : Nat) (P : pm_O → Prop), pm_cl X (d + 7) 174 [.ref 82, .int 60] (pm_S0 ++ g, NM I (apL F r []) (r + 0), J) P = P (none, (pm_S0 ++ g, NM I (apL F r [60]) (r + 1), J)) := fun d P => K_M_body (d := d + 6) (by omega)
  have u1 : ∀ (d : Nat) (P : pm_O → Prop), pm_cl X (d + 7) 180 [.ref 82, .int (nI j), .int ((x - nI j))] (pm_S0 ++ g, NM I (apL F r [60]) (r + 1), J) P = P (some (.int ((((x - (nI j)) * 3 + (nI j)) - v) * 2)), (pm_S0 ++ g, NM I (apL F r [60, 12, 11, 30, 10]) (r + 5), J)) := fun d P => K_M_pT5 (d := d + 0) hj hk hv rfl ((x - nI j)) (apL F r [60]) (r := r + 1) (by omega)
  refine K_of (k := 7) (fun d' => ?_)
  show pm_V X (d' + 7) 181 0 [some (.ref 82), some (.int (nI j)), some (.int x), none] [] (pm_S0 ++ g, NM I F r, J) _
  rw [show F = apL F r [] from rfl, show (pm_S0 ++ g, NM I (apL F r []) r, J) = (pm_S0 ++ g, NM I (apL F r []) (r + 0), J) from rfl]
  simp only [e_M_tellsAct_0, e_M_tellsAct_1, e_M_tellsAct_4, e_M_tellsAct_5, e_M_tellsAct_6_c4, e_M_tellsAct_6_c5, e_M_tellsAct_6_d, e_M_tellsAct_32, e_M_tellsAct_33, e_M_tellsAct_35, e_M_tellsAct_38, e_M_tellsAct_39, e_M_tellsAct_40, e_M_tellsAct_41, e_M_tellsAct_44, e_M_tellsAct_45, e_M_tellsAct_46, e_M_tellsAct_47, e_M_tellsAct_48, e_M_tellsAct_49, e_M_tellsAct_52, e_M_tellsAct_53, e_M_tellsAct_54, e_M_tellsAct_55, e_M_tellsAct_57, e_M_tellsAct_60, e_M_tellsAct_61, e_M_tellsAct_62, e_M_tellsAct_63, e_M_tellsAct_64, e_M_tellsAct_65, e_M_tellsAct_68, e_M_tellsAct_69, e_M_tellsAct_70, e_M_tellsAct_71, e_M_tellsAct_72, e_M_tellsAct_75, sh_o_82, sh_r_82_6, sh_r_82_7, sh_i_87, sh_i_88, hb, hcc, ek, ev, u0, u1, pm_opt_some, pm_opt_none, pm_opt_if, Bool.false_eq_true, Bool.not_false, Bool.not_true, if_false, if_true, true_and, and_true, true_or, or_true, not_true_eq_false, not_false_eq_true, q10, q00, q01, q11, pk_v, pk_i, pk_l, pk_r]
  try rfl
theorem K_M_fr6 (hj : j < 16) (hk : I 87 j = 6) (hv : I 88 j = v) (hc : c = nI j) (x : Int32) (F : Nat → Int32) (hr : r + 3 ≤ 20) : pm_cl X (d + 3) 176 [.ref 82, .int (nI j), .int x] (pm_S0 ++ g, NM I F r, J) P = P (some (.int (-(x + c) ^^^ v)), (pm_S0 ++ g, NM I (apL F r [71, 50, 10]) (r + 3), J)) := by
  subst hc
  have hb := bad_nI (k := j) (n := 16) hj (by decide)
  have hcc := nI_clamp (n := j) (by omega)
  have ek : ∀ F r, NM I F r 87 j = 6 := fun F r => by rw [NM_rd (by decide) (by decide)]; exact hk
  have ev : ∀ F r, NM I F r 88 j = v := fun F r => by rw [NM_rd (by decide) (by decide)]; exact hv
  have u0 : ∀ (d : Nat) (P : pm_O → Prop), pm_cl X (d + 2) 174 [.ref 82, .int 71] (pm_S0 ++ g, NM I (apL F r []) (r + 0), J) P = P (none, (pm_S0 ++ g, NM I (apL F r [71]) (r + 1), J)) := fun d P => K_M_body (d := d + 1) (by omega)
  have u1 : ∀ (d : Nat) (P : pm_O → Prop), pm_cl X (d + 2) 174 [.ref 82, .int 50] (pm_S0 ++ g, NM I (apL F r [71]) (r + 1), J) P = P (none, (pm_S0 ++ g, NM I (apL F r [71, 50]) (r + 2), J)) := fun d P => K_M_body (d := d + 1) (by omega)
  have u2 : ∀ (d : Nat) (P : pm_O → Prop), pm_cl X (d + 2) 175 [.ref 82, .int (nI j), .int (x)] (pm_S0 ++ g, NM I (apL F r [71, 50]) (r + 2), J) P = P (some (.int (x + (nI j))), (pm_S0 ++ g, NM I (apL F r [71, 50, 10]) (r + 3), J)) := fun d P => K_M_pF (d := d + 0) (c := nI j) (x) (apL F r [71, 50]) (r := r + 2) (by omega)
  refine K_of (k := 2) (fun d' => ?_)
  show pm_V X (d' + 2) 176 0 [some (.ref 82), some (.int (nI j)), some (.int x)] [] (pm_S0 ++ g, NM I F r, J) _
  rw [show F = apL F r [] from rfl, show (pm_S0 ++ g, NM I (apL F r []) r, J) = (pm_S0 ++ g, NM I (apL F r []) (r + 0), J) from rfl]
  simp only [e_M_freezesAct_0, e_M_freezesAct_1, e_M_freezesAct_4, e_M_freezesAct_5, e_M_freezesAct_6_c2, e_M_freezesAct_6_c3, e_M_freezesAct_6_c4, e_M_freezesAct_6_c5, e_M_freezesAct_6_c6, e_M_freezesAct_6_d, e_M_freezesAct_40, e_M_freezesAct_41, e_M_freezesAct_43, e_M_freezesAct_46, e_M_freezesAct_47, e_M_freezesAct_48, e_M_freezesAct_49, e_M_freezesAct_50, e_M_freezesAct_51, e_M_freezesAct_54, e_M_freezesAct_55, e_M_freezesAct_56, e_M_freezesAct_58, e_M_freezesAct_61, e_M_freezesAct_62, e_M_freezesAct_63, e_M_freezesAct_64, e_M_freezesAct_67, e_M_freezesAct_68, e_M_freezesAct_69, e_M_freezesAct_70, e_M_freezesAct_72, e_M_freezesAct_75, e_M_freezesAct_76, e_M_freezesAct_78, e_M_freezesAct_81, e_M_freezesAct_82, e_M_freezesAct_83, e_M_freezesAct_84, e_M_freezesAct_87, e_M_freezesAct_88, e_M_freezesAct_89, e_M_freezesAct_92, e_M_freezesAct_93, e_M_freezesAct_94, e_M_freezesAct_95, e_M_freezesAct_96, e_M_freezesAct_97, e_M_freezesAct_98, e_M_freezesAct_99, e_M_freezesAct_102, sh_o_82, sh_r_82_6, sh_r_82_7, sh_i_87, sh_i_88, hb, hcc, ek, ev, u0, u1, u2, pm_opt_some, pm_opt_none, pm_opt_if, Bool.false_eq_true, Bool.not_false, Bool.not_true, if_false, if_true, true_and, and_true, true_or, or_true, not_true_eq_false, not_false_eq_true, q10, q00, q01, q11, pk_v, pk_i, pk_l, pk_r]
  try rfl
theorem K_M_pG6 (hj : j < 16) (hk : I 87 j = 6) (hv : I 88 j = v) (hc : c = nI j) (x : Int32) (F : Nat → Int32) (hr : r + 4 ≤ 20) : pm_cl X (d + 4) 177 [.ref 82, .int (nI j), .int x] (pm_S0 ++ g, NM I F r, J) P = P (some (.int ((-(x + c) ^^^ v) - v)), (pm_S0 ++ g, NM I (apL F r [11, 71, 50, 10]) (r + 4), J)) := by
  subst hc
  have hb := bad_nI (k := j) (n := 16) hj (by decide)
  have hcc := nI_clamp (n := j) (by omega)
  have ek : ∀ F r, NM I F r 87 j = 6 := fun F r => by rw [NM_rd (by decide) (by decide)]; exact hk
  have ev : ∀ F r, NM I F r 88 j = v := fun F r => by rw [NM_rd (by decide) (by decide)]; exact hv
  have u0 : ∀ (d : Nat) (P : pm_O → Prop), pm_cl X (d + 3) 174 [.ref 82, .int 11] (pm_S0 ++ g, NM I (apL F r []) (r + 0), J) P = P (none, (pm_S0 ++ g, NM I (apL F r [11]) (r + 1), J)) := fun d P => K_M_body (d := d + 2) (by omega)
  have u1 : ∀ (d : Nat) (P : pm_O → Prop), pm_cl X (d + 3) 176 [.ref 82, .int (nI j), .int (x)] (pm_S0 ++ g, NM I (apL F r [11]) (r + 1), J) P = P (some (.int (-(x + (nI j)) ^^^ v)), (pm_S0 ++ g, NM I (apL F r [11, 71, 50, 10]) (r + 4), J)) := fun d P => K_M_fr6 (d := d + 0) hj hk hv rfl (x) (apL F r [11]) (r := r + 1) (by omega)
  refine K_of (k := 3) (fun d' => ?_)
  show pm_V X (d' + 3) 177 0 [some (.ref 82), some (.int (nI j)), some (.int x)] [] (pm_S0 ++ g, NM I F r, J) _
  rw [show F = apL F r [] from rfl, show (pm_S0 ++ g, NM I (apL F r []) r, J) = (pm_S0 ++ g, NM I (apL F r []) (r + 0), J) from rfl]
  simp only [e_M_plainGoes_0, e_M_plainGoes_1, e_M_plainGoes_3, e_M_plainGoes_6, e_M_plainGoes_7, e_M_plainGoes_8, e_M_plainGoes_9, e_M_plainGoes_12, e_M_plainGoes_13, e_M_plainGoes_16, e_M_plainGoes_17, e_M_plainGoes_18, e_M_plainGoes_19, sh_o_82, sh_r_82_6, sh_r_82_7, sh_i_87, sh_i_88, hb, hcc, ek, ev, u0, u1, pm_opt_some, pm_opt_none, pm_opt_if, Bool.false_eq_true, Bool.not_false, Bool.not_true, if_false, if_true, true_and, and_true, true_or, or_true, not_true_eq_false, not_false_eq_true, q10, q00, q01, q11, pk_v, pk_i, pk_l, pk_r]
  try rfl
theorem K_M_sG6 (hj : j < 16) (hk : I 87 j = 6) (hv : I 88 j = v) (hc : c = nI j) (x : Int32) (F : Nat → Int32) (hr : r + 5 ≤ 20) : pm_cl X (d + 5) 178 [.ref 82, .int (nI j), .int x] (pm_S0 ++ g, NM I F r, J) P = P (some (.int ((-((x + 1) + c) ^^^ v) - v)), (pm_S0 ++ g, NM I (apL F r [51, 11, 71, 50, 10]) (r + 5), J)) := by
  subst hc
  have hb := bad_nI (k := j) (n := 16) hj (by decide)
  have hcc := nI_clamp (n := j) (by omega)
  have ek : ∀ F r, NM I F r 87 j = 6 := fun F r => by rw [NM_rd (by decide) (by decide)]; exact hk
  have ev : ∀ F r, NM I F r 88 j = v := fun F r => by rw [NM_rd (by decide) (by decide)]; exact hv
  have u0 : ∀ (d : Nat) (P : pm_O → Prop), pm_cl X (d + 4) 174 [.ref 82, .int 51] (pm_S0 ++ g, NM I (apL F r []) (r + 0), J) P = P (none, (pm_S0 ++ g, NM I (apL F r [51]) (r + 1), J)) := fun d P => K_M_body (d := d + 3) (by omega)
  have u1 : ∀ (d : Nat) (P : pm_O → Prop), pm_cl X (d + 4) 177 [.ref 82, .int (nI j), .int ((x + 1))] (pm_S0 ++ g, NM I (apL F r [51]) (r + 1), J) P = P (some (.int ((-((x + 1) + (nI j)) ^^^ v) - v)), (pm_S0 ++ g, NM I (apL F r [51, 11, 71, 50, 10]) (r + 5), J)) := fun d P => K_M_pG6 (d := d + 0) hj hk hv rfl ((x + 1)) (apL F r [51]) (r := r + 1) (by omega)
  refine K_of (k := 4) (fun d' => ?_)
  show pm_V X (d' + 4) 178 0 [some (.ref 82), some (.int (nI j)), some (.int x)] [] (pm_S0 ++ g, NM I F r, J) _
  rw [show F = apL F r [] from rfl, show (pm_S0 ++ g, NM I (apL F r []) r, J) = (pm_S0 ++ g, NM I (apL F r []) (r + 0), J) from rfl]
  simp only [e_M_sprungGoes_0, e_M_sprungGoes_1, e_M_sprungGoes_3, e_M_sprungGoes_6, e_M_sprungGoes_7, e_M_sprungGoes_8, e_M_sprungGoes_9, e_M_sprungGoes_10, e_M_sprungGoes_11, e_M_sprungGoes_14, sh_o_82, sh_r_82_6, sh_r_82_7, sh_i_87, sh_i_88, hb, hcc, ek, ev, u0, u1, pm_opt_some, pm_opt_none, pm_opt_if, Bool.false_eq_true, Bool.not_false, Bool.not_true, if_false, if_true, true_and, and_true, true_or, or_true, not_true_eq_false, not_false_eq_true, q10, q00, q01, q11, pk_v, pk_i, pk_l, pk_r]
  try rfl
theorem K_M_go6 (hj : j < 16) (hk : I 87 j = 6) (hv : I 88 j = v) (hc : c = nI j) (x : Int32) (F : Nat → Int32) (hr : r + 8 ≤ 20) : pm_cl X (d + 6) 179 [.ref 82, .int (nI j), .int x] (pm_S0 ++ g, NM I F r, J) P = P (some (.int (((-((x + 1) + c) ^^^ v) - v) - (2 + c))), (pm_S0 ++ g, NM I (apL F r [70, 51, 11, 71, 50, 10, 50, 10]) (r + 8), J)) := by
  subst hc
  have hb := bad_nI (k := j) (n := 16) hj (by decide)
  have hcc := nI_clamp (n := j) (by omega)
  have ek : ∀ F r, NM I F r 87 j = 6 := fun F r => by rw [NM_rd (by decide) (by decide)]; exact hk
  have ev : ∀ F r, NM I F r 88 j = v := fun F r => by rw [NM_rd (by decide) (by decide)]; exact hv
  have u0 : ∀ (d : Nat) (P : pm_O → Prop), pm_cl X (d + 5) 174 [.ref 82, .int 70] (pm_S0 ++ g, NM I (apL F r []) (r + 0), J) P = P (none, (pm_S0 ++ g, NM I (apL F r [70]) (r + 1), J)) := fun d P => K_M_body (d := d + 4) (by omega)
  have u1 : ∀ (d : Nat) (P : pm_O → Prop), pm_cl X (d + 5) 178 [.ref 82, .int (nI j), .int (x)] (pm_S0 ++ g, NM I (apL F r [70]) (r + 1), J) P = P (some (.int ((-((x + 1) + (nI j)) ^^^ v) - v)), (pm_S0 ++ g, NM I (apL F r [70, 51, 11, 71, 50, 10]) (r + 6), J)) := fun d P => K_M_sG6 (d := d + 0) hj hk hv rfl (x) (apL F r [70]) (r := r + 1) (by omega)
  have u2 : ∀ (d : Nat) (P : pm_O → Prop), pm_cl X (d + 5) 174 [.ref 82, .int 50] (pm_S0 ++ g, NM I (apL F r [70, 51, 11, 71, 50, 10]) (r + 6), J) P = P (none, (pm_S0 ++ g, NM I (apL F r [70, 51, 11, 71, 50, 10, 50]) (r + 7), J)) := fun d P => K_M_body (d := d + 4) (by omega)
  have u3 : ∀ (d : Nat) (P : pm_O → Prop), pm_cl X (d + 5) 175 [.ref 82, .int (nI j), .int (2)] (pm_S0 ++ g, NM I (apL F r [70, 51, 11, 71, 50, 10, 50]) (r + 7), J) P = P (some (.int (2 + (nI j))), (pm_S0 ++ g, NM I (apL F r [70, 51, 11, 71, 50, 10, 50, 10]) (r + 8), J)) := fun d P => K_M_pF (d := d + 3) (c := nI j) (2) (apL F r [70, 51, 11, 71, 50, 10, 50]) (r := r + 7) (by omega)
  refine K_of (k := 5) (fun d' => ?_)
  show pm_V X (d' + 5) 179 0 [some (.ref 82), some (.int (nI j)), some (.int x), none] [] (pm_S0 ++ g, NM I F r, J) _
  rw [show F = apL F r [] from rfl, show (pm_S0 ++ g, NM I (apL F r []) r, J) = (pm_S0 ++ g, NM I (apL F r []) (r + 0), J) from rfl]
  simp only [e_M_goesAct_0, e_M_goesAct_1, e_M_goesAct_4, e_M_goesAct_5, e_M_goesAct_6_c1, e_M_goesAct_6_c3, e_M_goesAct_6_c6, e_M_goesAct_6_d, e_M_goesAct_40, e_M_goesAct_41, e_M_goesAct_43, e_M_goesAct_46, e_M_goesAct_47, e_M_goesAct_48, e_M_goesAct_49, e_M_goesAct_52, e_M_goesAct_54, e_M_goesAct_55, e_M_goesAct_56, e_M_goesAct_57, e_M_goesAct_58, e_M_goesAct_59, e_M_goesAct_62, e_M_goesAct_63, e_M_goesAct_64, e_M_goesAct_66, e_M_goesAct_69, e_M_goesAct_70, e_M_goesAct_71, e_M_goesAct_72, e_M_goesAct_75, e_M_goesAct_76, e_M_goesAct_77, e_M_goesAct_79, e_M_goesAct_82, e_M_goesAct_83, e_M_goesAct_84, e_M_goesAct_85, e_M_goesAct_86, e_M_goesAct_89, e_M_goesAct_90, e_M_goesAct_91, e_M_goesAct_92, e_M_goesAct_93, e_M_goesAct_94, e_M_goesAct_97, sh_o_82, sh_r_82_6, sh_r_82_7, sh_i_87, sh_i_88, hb, hcc, ek, ev, u0, u1, u2, u3, pm_opt_some, pm_opt_none, pm_opt_if, Bool.false_eq_true, Bool.not_false, Bool.not_true, if_false, if_true, true_and, and_true, true_or, or_true, not_true_eq_false, not_false_eq_true, q10, q00, q01, q11, pk_v, pk_i, pk_l, pk_r]
  try rfl
theorem K_M_pT6 (hj : j < 16) (hk : I 87 j = 6) (hv : I 88 j = v) (hc : c = nI j) (x : Int32) (F : Nat → Int32) (hr : r + 9 ≤ 20) : pm_cl X (d + 7) 180 [.ref 82, .int (nI j), .int x] (pm_S0 ++ g, NM I F r, J) P = P (some (.int ((((-((x + 1) + c) ^^^ v) - v) - (2 + c)) * 2)), (pm_S0 ++ g, NM I (apL F r [12, 70, 51, 11, 71, 50, 10, 50, 10]) (r + 9), J)) := by
  subst hc
  have hb := bad_nI (k := j) (n := 16) hj (by decide)
  have hcc := nI_clamp (n := j) (by omega)
  have ek : ∀ F r, NM I F r 87 j = 6 := fun F r => by rw [NM_rd (by decide) (by decide)]; exact hk
  have ev : ∀ F r, NM I F r 88 j = v := fun F r => by rw [NM_rd (by decide) (by decide)]; exact hv
  have u0 : ∀ (d : Nat) (P : pm_O → Prop), pm_cl X (d + 6) 174 [.ref 82, .int 12] (pm_S0 ++ g, NM I (apL F r []) (r + 0), J) P = P (none, (pm_S0 ++ g, NM I (apL F r [12]) (r + 1), J)) := fun d P => K_M_body (d := d + 5) (by omega)
  have u1 : ∀ (d : Nat) (P : pm_O → Prop), pm_cl X (d + 6) 179 [.ref 82, .int (nI j), .int (x)] (pm_S0 ++ g, NM I (apL F r [12]) (r + 1), J) P = P (some (.int (((-((x + 1) + (nI j)) ^^^ v) - v) - (2 + (nI j)))), (pm_S0 ++ g, NM I (apL F r [12, 70, 51, 11, 71, 50, 10, 50, 10]) (r + 9), J)) := fun d P => K_M_go6 (d := d + 0) hj hk hv rfl (x) (apL F r [12]) (r := r + 1) (by omega)
  refine K_of (k := 6) (fun d' => ?_)
  show pm_V X (d' + 6) 180 0 [some (.ref 82), some (.int (nI j)), some (.int x)] [] (pm_S0 ++ g, NM I F r, J) _
  rw [show F = apL F r [] from rfl, show (pm_S0 ++ g, NM I (apL F r []) r, J) = (pm_S0 ++ g, NM I (apL F r []) (r + 0), J) from rfl]
  simp only [e_M_plainTells_0, e_M_plainTells_1, e_M_plainTells_3, e_M_plainTells_6, e_M_plainTells_7, e_M_plainTells_8, e_M_plainTells_9, e_M_plainTells_12, e_M_plainTells_13, e_M_plainTells_14, sh_o_82, sh_r_82_6, sh_r_82_7, sh_i_87, sh_i_88, hb, hcc, ek, ev, u0, u1, pm_opt_some, pm_opt_none, pm_opt_if, Bool.false_eq_true, Bool.not_false, Bool.not_true, if_false, if_true, true_and, and_true, true_or, or_true, not_true_eq_false, not_false_eq_true, q10, q00, q01, q11, pk_v, pk_i, pk_l, pk_r]
  try rfl
theorem K_M_te6 (hj : j < 16) (hk : I 87 j = 6) (hv : I 88 j = v) (hc : c = nI j) (x : Int32) (F : Nat → Int32) (hr : r + 9 ≤ 20) : pm_cl X (d + 8) 181 [.ref 82, .int (nI j), .int x] (pm_S0 ++ g, NM I F r, J) P = P (some (.int ((((-((x + 1) + c) ^^^ v) - v) - (2 + c)) * 2)), (pm_S0 ++ g, NM I (apL F r [12, 70, 51, 11, 71, 50, 10, 50, 10]) (r + 9), J)) := by
  subst hc
  have hb := bad_nI (k := j) (n := 16) hj (by decide)
  have hcc := nI_clamp (n := j) (by omega)
  have ek : ∀ F r, NM I F r 87 j = 6 := fun F r => by rw [NM_rd (by decide) (by decide)]; exact hk
  have ev : ∀ F r, NM I F r 88 j = v := fun F r => by rw [NM_rd (by decide) (by decide)]; exact hv
  have u0 : ∀ (d : Nat) (P : pm_O → Prop), pm_cl X (d + 7) 180 [.ref 82, .int (nI j), .int (x)] (pm_S0 ++ g, NM I (apL F r []) (r + 0), J) P = P (some (.int ((((-((x + 1) + (nI j)) ^^^ v) - v) - (2 + (nI j))) * 2)), (pm_S0 ++ g, NM I (apL F r [12, 70, 51, 11, 71, 50, 10, 50, 10]) (r + 9), J)) := fun d P => K_M_pT6 (d := d + 0) hj hk hv rfl (x) (apL F r []) (r := r + 0) (by omega)
  refine K_of (k := 7) (fun d' => ?_)
  show pm_V X (d' + 7) 181 0 [some (.ref 82), some (.int (nI j)), some (.int x), none] [] (pm_S0 ++ g, NM I F r, J) _
  have x4 : ¬ (6 : Int32) = 4 := by decide
  have x5 : ¬ (6 : Int32) = 5 := by decide
  rw [show F = apL F r [] from rfl, show (pm_S0 ++ g, NM I (apL F r []) r, J) = (pm_S0 ++ g, NM I (apL F r []) (r + 0), J) from rfl]
  simp only [e_M_tellsAct_0, e_M_tellsAct_1, e_M_tellsAct_4, e_M_tellsAct_5, e_M_tellsAct_32, e_M_tellsAct_33, e_M_tellsAct_35, e_M_tellsAct_38, e_M_tellsAct_39, e_M_tellsAct_40, e_M_tellsAct_41, e_M_tellsAct_44, e_M_tellsAct_45, e_M_tellsAct_46, e_M_tellsAct_47, e_M_tellsAct_48, e_M_tellsAct_49, e_M_tellsAct_52, e_M_tellsAct_53, e_M_tellsAct_54, e_M_tellsAct_55, e_M_tellsAct_57, e_M_tellsAct_60, e_M_tellsAct_61, e_M_tellsAct_62, e_M_tellsAct_63, e_M_tellsAct_64, e_M_tellsAct_65, e_M_tellsAct_68, e_M_tellsAct_69, e_M_tellsAct_70, e_M_tellsAct_71, e_M_tellsAct_72, e_M_tellsAct_75, e_M_tellsAct_6_d x4 x5, sh_o_82, sh_r_82_6, sh_r_82_7, sh_i_87, sh_i_88, hb, hcc, ek, ev, u0, pm_opt_some, pm_opt_none, pm_opt_if, Bool.false_eq_true, Bool.not_false, Bool.not_true, if_false, if_true, true_and, and_true, true_or, or_true, not_true_eq_false, not_false_eq_true, q10, q00, q01, q11, pk_v, pk_i, pk_l, pk_r]
  try rfl
/-- the cells of Acts, as start lays them -/
def actI (I : Nat → Nat → Int32) (j : Nat) : Nat → Nat → Int32 := pm_w (pm_w (pm_w I 33 2 (nI j)) 33 3 (I 7 j)) 33 4 (I 8 j)
theorem actI_NT : pm_w (pm_w (pm_w (pm_w I 33 1 0) 33 2 (nI j)) 33 3 (I 7 j)) 33 4 (I 8 j) = NT (actI I j) (I 34) 0 := by
  have e : I 34 = actI I j 34 := by
    unfold actI
    simp only [pw_eq, pw_ne, pu_eq, pu_ne, upd_app, Nat.reduceEqDiff, not_false_eq_true, if_false, if_true]
  unfold NT
  rw [e, pu_self, nI_0]
  unfold actI
  funext q k
  simp only [pm_w_app]
  by_cases h : q = 33
  · by_cases h1 : k = 1
    · simp [h, h1]
    · simp [h, h1]
  · simp [h]
theorem NM_0 : pm_w I 82 53 0 = NM I (I 118) 0 := by
  unfold NM
  rw [pu_self, nI_0]
theorem act_pair {a v : Int32} {tr : List Int32} {n m : Nat} (hR : Rel I J) (hj : j < 16) (hn : n ≤ 20) (ha : 0 ≤ a ∧ a ≤ 2)
    (hB : ∀ (d : Nat) (P : pm_O → Prop), pm_cl X (d + 48) 89 [.ref 33, .int a, .int (I 7 j), .int x, .int 0] (pm_S0 ++ g, NT (actI I j) (I 34) 0, J) P = P (some (.int v), (pm_S0 ++ g, NT (actI I j) (apL (I 34) 0 tr) n, J)))
    (hM : ∀ (I1 : Nat → Nat → Int32), I1 87 j = I 7 j → I1 88 j = I 8 j → ∀ (d : Nat) (Q : pm_O → Prop), pm_V X (d + 49) 182 25 [some (.ref 82), some (.int (nI j)), some (.int a), some (.int x)] [] (pm_S0 ++ g, NM I1 (I1 118) 0, J) Q = Q (some (.int v), (pm_S0 ++ g, NM I1 (apL (I1 118) 0 tr) n, J))) : Pair X 28 182 [.int (nI j), .int a, .int x] g I J := by
  have hb := bad_nI (k := j) (n := 16) hj (by decide)
  have hcc := nI_clamp (n := j) (by omega)
  have hc : 0 ≤ nI j ∧ nI j ≤ 15 := ⟨nI_pos' (by omega), by rw [show (15 : Int32) = nI 15 from rfl, nI_leI (by omega) (by decide)]; omega⟩
  obtain ⟨r1, r2, r3, r4, r5, r6, r7, r8⟩ := id hR
  have st : ∀ (d : Nat) (P : pm_O → Prop), pm_cl X (d + 49) 88 [.ref 33, .int a, .int (nI j), .int (I 7 j), .int (I 8 j), .int x] (pm_S0 ++ g, pm_w I 33 1 0, J) P = P (some (.int v), (pm_S0 ++ g, NT (actI I j) (apL (I 34) 0 tr) n, J)) := by
    intro d P
    refine K_of (k := 48) (fun d' => ?_)
    have e3 : NT (actI I j) (I 34) 0 33 3 = I 7 j := by
      rw [NT_33, upd_app, if_neg (by decide)]
      unfold actI
      simp only [pw_eq, pw_ne, pu_eq, pu_ne, upd_app, Nat.reduceEqDiff, not_false_eq_true, if_false, if_true]
    show pm_V X (d' + 48) 88 0 [some (.ref 33), some (.int a), some (.int (nI j)), some (.int (I 7 j)), some (.int (I 8 j)), some (.int x)] [] (pm_S0 ++ g, pm_w I 33 1 0, J) _
    simp only [e_A_start_0, e_A_start_1, e_A_start_2, e_A_start_5, e_A_start_6, e_A_start_7, e_A_start_10, e_A_start_11, e_A_start_13, e_A_start_16, e_A_start_17, e_A_start_18, e_A_start_19, e_A_start_22, e_A_start_24, e_A_start_25, e_A_start_28, sh_o_33, actI_NT, e3, hB, pm_opt_some, pm_opt_none, pm_opt_if, Bool.false_eq_true, Bool.not_false, Bool.not_true, if_false, if_true, true_and, and_true, true_or, or_true, not_true_eq_false, not_false_eq_true, q10, q00, q01, q11, pk_v, pk_i, pk_l, pk_r]
  have fg : ∀ (d : Nat) (P : pm_O → Prop), pm_cl X (d + 49) 87 [.ref 33] (pm_S0 ++ g, I, J) P = P (none, (pm_S0 ++ g, pm_w I 33 1 0, J)) := by
    intro d P
    refine K_of (k := 48) (fun d' => ?_)
    show pm_V X (d' + 48) 87 0 [some (.ref 33)] [] (pm_S0 ++ g, I, J) _
    simp only [e_A_forget_0, e_A_forget_1, e_A_forget_2, e_A_forget_5, sh_o_33, pm_opt_some, pm_opt_none, pm_opt_if, Bool.false_eq_true, Bool.not_false, Bool.not_true, if_false, if_true, true_and, and_true, true_or, or_true, not_true_eq_false, not_false_eq_true, q10, q00, q01, q11, pk_v, pk_i, pk_l, pk_r]
  have rd : ∀ q, ¬ q = 33 → ¬ q = 34 → NT (actI I j) (apL (I 34) 0 tr) n q = I q := by
    intro q h1 h2
    unfold NT actI
    rw [pw_ne h1, pu_ne h2, pw_ne h1, pw_ne h1, pw_ne h1]
  refine ⟨.int v, g, NT (actI I j) (apL (I 34) 0 tr) n, J, NM (NT (actI I j) (apL (I 34) 0 tr) n) (apL (NT (actI I j) (apL (I 34) 0 tr) n 118) 0 tr) n, J, ?_, Or.inl rfl, rfl, K50 fun d' => ?_, K50 fun d' => ?_⟩
  · have e118 : NT (actI I j) (apL (I 34) 0 tr) n 118 = I 34 := by
      rw [rd 118 (by decide) (by decide)]
      exact r3.1.2
    rw [e118]
    have all : ∀ q, ¬ q = 33 → ¬ q = 34 → ¬ q = 82 → ¬ q = 118 → NM (NT (actI I j) (apL (I 34) 0 tr) n) (apL (I 34) 0 tr) n q = I q := by
      intro q h1 h2 h3 h4
      rw [NM_rd h3 h4, rd q h1 h2]
    have a82 : ∀ k, ¬ k = 53 → NM (NT (actI I j) (apL (I 34) 0 tr) n) (apL (I 34) 0 tr) n 82 k = I 82 k := by
      intro k hk
      rw [NM_82, upd_app, if_neg hk, rd 82 (by decide) (by decide)]
    have a53 : NM (NT (actI I j) (apL (I 34) 0 tr) n) (apL (I 34) 0 tr) n 82 53 = nI n := by
      rw [NM_82, upd_app, if_pos rfl]
    have a118 : NM (NT (actI I j) (apL (I 34) 0 tr) n) (apL (I 34) 0 tr) n 118 = apL (I 34) 0 tr := by
      unfold NM
      rw [pw_ne (by decide), pu_eq]
    have a34 : NM (NT (actI I j) (apL (I 34) 0 tr) n) (apL (I 34) 0 tr) n 34 = apL (I 34) 0 tr := by
      rw [NM_rd (by decide) (by decide), NT_34]
    have a33 : NM (NT (actI I j) (apL (I 34) 0 tr) n) (apL (I 34) 0 tr) n 33 1 = nI n := by
      rw [NM_rd (by decide) (by decide), NT_33, upd_app, if_pos rfl]
    generalize NM (NT (actI I j) (apL (I 34) 0 tr) n) (apL (I 34) 0 tr) n = I2 at all a82 a53 a118 a34 a33
    refine Rel_upd (L := [33, 34, 82, 118]) hR ?_ ?_ ?_ ?_ ?_ ?_ ?_ (by decide) (by decide) (by rw [all 0 (by decide) (by decide) (by decide) (by decide)])
    · unfold REn at r1 ⊢
      simp only [all, a82, Nat.reduceEqDiff, not_false_eq_true]
      exact r1
    · unfold REk at r2 ⊢
      simp only [all, a82, Nat.reduceEqDiff, not_false_eq_true]
      exact r2
    · unfold REo at r3 ⊢
      simp only [all, a82, a53, a118, a34, a33, Nat.reduceEqDiff, not_false_eq_true, r3, and_self]
    · unfold RBn at r4 ⊢
      simp only [all, Nat.reduceEqDiff, not_false_eq_true]
      exact r4
    · unfold RBk at r5 ⊢
      simp only [all, Nat.reduceEqDiff, not_false_eq_true]
      exact r5
    · unfold RX at r7 ⊢
      simp only [all, a33, Nat.reduceEqDiff, not_false_eq_true]
      exact ⟨r7.1, r7.2.1, r7.2.2.1, n, by omega, rfl⟩
    · intro q hq
      simp only [List.contains_cons, List.contains_nil, Bool.or_false, Bool.or_eq_false_iff, beq_eq_false_iff_ne, ne_eq] at hq
      exact all q hq.1 hq.2.1 hq.2.2.1 hq.2.2.2
  · have e7 : pm_w I 33 1 0 7 = I 7 := pw_ne (by decide)
    have e8 : pm_w I 33 1 0 8 = I 8 := pw_ne (by decide)
    show pm_V X (d' + 49) 28 0 [some (.ref 0), some (.int (nI j)), some (.int a), some (.int x)] [] (pm_S0 ++ g, I, J) _
    simp only [e_B_act_0, e_B_act_1, e_B_act_4, e_B_act_7, e_B_act_8, e_B_act_11, e_B_act_14, e_B_act_15, e_B_act_16, e_B_act_17, e_B_act_20, e_B_act_23, e_B_act_24, e_B_act_25, e_B_act_26, e_B_act_29, e_B_act_30, e_B_act_31, e_B_act_32, e_B_act_35, e_B_act_38, e_B_act_39, e_B_act_40, e_B_act_41, e_B_act_44, e_B_act_47, e_B_act_48, e_B_act_49, e_B_act_50, e_B_act_53, K_B_isCell, K_B_isWithin, eq_true hc, eq_true ha, sh_r_0_0, sh_r_0_9, sh_r_1_2, sh_r_1_3, sh_o_33, sh_i_7, sh_i_8, hb, hcc, e7, e8, fg, st, pm_opt_some, pm_opt_none, pm_opt_if, Bool.false_eq_true, Bool.not_false, Bool.not_true, if_false, if_true, true_and, and_true, true_or, or_true, not_true_eq_false, not_false_eq_true, q10, q00, q01, q11, pk_v, pk_i, pk_l, pk_r]
  · have h7 : NT (actI I j) (apL (I 34) 0 tr) n 87 j = I 7 j := by rw [rd 87 (by decide) (by decide), r1.1.2.2.2.2.1]
    have h8 : NT (actI I j) (apL (I 34) 0 tr) n 88 j = I 8 j := by rw [rd 88 (by decide) (by decide), r1.1.2.2.2.2.2.1]
    show pm_V X (d' + 49) 182 0 [some (.ref 82), some (.int (nI j)), some (.int a), some (.int x)] [] (pm_S0 ++ g, _, J) _
    simp only [e_M_act_0, e_M_act_1, e_M_act_2, e_M_act_5, e_M_act_6, e_M_act_7, e_M_act_10, e_M_act_13, e_M_act_14, e_M_act_15, e_M_act_16, e_M_act_17, e_M_act_20, e_M_act_23, e_M_act_24, e_M_act_26, e_M_act_29, e_M_act_30, e_M_act_31, e_M_act_32, e_M_act_35, e_M_act_38, e_M_act_39, e_M_act_40, e_M_act_43, e_M_act_44, e_M_act_45, e_M_act_46, e_M_act_49, e_M_act_52, e_M_act_53, e_M_act_54, e_M_act_55, e_M_act_58, sh_o_82, K_M_isCell, K_M_in, eq_true hc, eq_true ha, pm_opt_some, pm_opt_none, pm_opt_if, Bool.false_eq_true, Bool.not_false, Bool.not_true, if_false, if_true, true_and, and_true, true_or, or_true, not_true_eq_false, not_false_eq_true, q10, q00, q01, q11, pk_v, pk_i, pk_l, pk_r]
    rw [NM_0, hM _ h7 h8]
theorem Pair_act_0_0 (hg : g.length ≤ 600) (hR : Rel I J) (hj : j < 16) (hk : I 7 j = 0) : Pair X 28 182 [.int (nI j), .int 0, .int x] g I J := by
  refine act_pair (v := x + nI j) (tr := [10]) (n := 1) (m := 0) hR hj (by omega) (by decide) (fun d P => ?_) (fun I1 h7 h8 d Q => ?_)
  · have hc2 : actI I j 33 2 = nI j := by
      unfold actI
      simp only [pw_eq, pw_ne, pu_eq, pu_ne, upd_app, Nat.reduceEqDiff, not_false_eq_true, if_false, if_true]
    have hk2 : actI I j 33 3 = 0 := by
      unfold actI
      simp only [pw_eq, pw_ne, pu_eq, pu_ne, upd_app, Nat.reduceEqDiff, not_false_eq_true, if_false, if_true]
      exact hk
    have hv2 : actI I j 33 4 = I 8 j := by
      unfold actI
      simp only [pw_eq, pw_ne, pu_eq, pu_ne, upd_app, Nat.reduceEqDiff, not_false_eq_true, if_false, if_true]
    have u := K_A_p0_0_0 (X := X) (d := d + 44) (P := P) (J := J) (g := g) hg hc2 hk2 hv2 x (I 34) (r := 0) (e := 0) (by omega) (by omega)
    rw [nI_0] at u
    rw [hk]
    exact u
  · have u := K_M_fr0 (X := X) (d := d + 46) (P := pm_k X (d + 49) 182 35 [some (.ref 82), some (.int (nI j)), some (.int 0), some (.int x)] [] (pm_S0 ++ g).length Q) (J := J) (g := g) (v := I 8 j) hj (h7.trans hk) h8 rfl x (I1 118) (r := 0) (by omega)
    simp only [Nat.add_assoc, Nat.reduceAdd] at u
    simp only [e_M_act_0, e_M_act_1, e_M_act_2, e_M_act_5, e_M_act_6, e_M_act_7, e_M_act_10, e_M_act_13, e_M_act_14, e_M_act_15, e_M_act_16, e_M_act_17, e_M_act_20, e_M_act_23, e_M_act_24, e_M_act_25, e_M_act_26, e_M_act_29, e_M_act_30, e_M_act_31, e_M_act_32, e_M_act_35, e_M_act_38, e_M_act_39, e_M_act_40, e_M_act_43, e_M_act_44, e_M_act_45, e_M_act_46, e_M_act_49, e_M_act_52, e_M_act_53, e_M_act_54, e_M_act_55, e_M_act_58, sh_o_82, u, show ((2 : Int32) = 0) = False by decide, show ((2 : Int32) = 1) = False by decide, pm_opt_some, pm_opt_none, pm_opt_if, Bool.false_eq_true, Bool.not_false, Bool.not_true, if_false, if_true, true_and, and_true, true_or, or_true, not_true_eq_false, not_false_eq_true, q10, q00, q01, q11, pk_v, pk_i, pk_l, pk_r]
theorem Pair_act_0_1 (hg : g.length ≤ 600) (hR : Rel I J) (hj : j < 16) (hk : I 7 j = 0) : Pair X 28 182 [.int (nI j), .int 1, .int x] g I J := by
  refine act_pair (v := (x + nI j) - I 8 j) (tr := [11, 10]) (n := 2) (m := 0) hR hj (by omega) (by decide) (fun d P => ?_) (fun I1 h7 h8 d Q => ?_)
  · have hc2 : actI I j 33 2 = nI j := by
      unfold actI
      simp only [pw_eq, pw_ne, pu_eq, pu_ne, upd_app, Nat.reduceEqDiff, not_false_eq_true, if_false, if_true]
    have hk2 : actI I j 33 3 = 0 := by
      unfold actI
      simp only [pw_eq, pw_ne, pu_eq, pu_ne, upd_app, Nat.reduceEqDiff, not_false_eq_true, if_false, if_true]
      exact hk
    have hv2 : actI I j 33 4 = I 8 j := by
      unfold actI
      simp only [pw_eq, pw_ne, pu_eq, pu_ne, upd_app, Nat.reduceEqDiff, not_false_eq_true, if_false, if_true]
    have u := K_A_p0_1_0 (X := X) (d := d + 43) (P := P) (J := J) (g := g) hg hc2 hk2 hv2 x (I 34) (r := 0) (e := 0) (by omega) (by omega)
    rw [nI_0] at u
    rw [hk]
    exact u
  · have u := K_M_go0 (X := X) (d := d + 43) (P := pm_k X (d + 49) 182 49 [some (.ref 82), some (.int (nI j)), some (.int 1), some (.int x)] [] (pm_S0 ++ g).length Q) (J := J) (g := g) (v := I 8 j) hj (h7.trans hk) h8 rfl x (I1 118) (r := 0) (by omega)
    simp only [Nat.add_assoc, Nat.reduceAdd] at u
    simp only [e_M_act_0, e_M_act_1, e_M_act_2, e_M_act_5, e_M_act_6, e_M_act_7, e_M_act_10, e_M_act_13, e_M_act_14, e_M_act_15, e_M_act_16, e_M_act_17, e_M_act_20, e_M_act_23, e_M_act_24, e_M_act_25, e_M_act_26, e_M_act_29, e_M_act_30, e_M_act_31, e_M_act_32, e_M_act_35, e_M_act_38, e_M_act_39, e_M_act_40, e_M_act_43, e_M_act_44, e_M_act_45, e_M_act_46, e_M_act_49, e_M_act_52, e_M_act_53, e_M_act_54, e_M_act_55, e_M_act_58, sh_o_82, u, show ((2 : Int32) = 0) = False by decide, show ((2 : Int32) = 1) = False by decide, pm_opt_some, pm_opt_none, pm_opt_if, Bool.false_eq_true, Bool.not_false, Bool.not_true, if_false, if_true, true_and, and_true, true_or, or_true, not_true_eq_false, not_false_eq_true, q10, q00, q01, q11, pk_v, pk_i, pk_l, pk_r]
theorem Pair_act_0_2 (hg : g.length ≤ 600) (hR : Rel I J) (hj : j < 16) (hk : I 7 j = 0) : Pair X 28 182 [.int (nI j), .int 2, .int x] g I J := by
  refine act_pair (v := ((x + nI j) - I 8 j) * 2) (tr := [12, 11, 10]) (n := 3) (m := 0) hR hj (by omega) (by decide) (fun d P => ?_) (fun I1 h7 h8 d Q => ?_)
  · have hc2 : actI I j 33 2 = nI j := by
      unfold actI
      simp only [pw_eq, pw_ne, pu_eq, pu_ne, upd_app, Nat.reduceEqDiff, not_false_eq_true, if_false, if_true]
    have hk2 : actI I j 33 3 = 0 := by
      unfold actI
      simp only [pw_eq, pw_ne, pu_eq, pu_ne, upd_app, Nat.reduceEqDiff, not_false_eq_true, if_false, if_true]
      exact hk
    have hv2 : actI I j 33 4 = I 8 j := by
      unfold actI
      simp only [pw_eq, pw_ne, pu_eq, pu_ne, upd_app, Nat.reduceEqDiff, not_false_eq_true, if_false, if_true]
    have u := K_A_p0_2_0 (X := X) (d := d + 42) (P := P) (J := J) (g := g) hg hc2 hk2 hv2 x (I 34) (r := 0) (e := 0) (by omega) (by omega)
    rw [nI_0] at u
    rw [hk]
    exact u
  · have u := K_M_te0 (X := X) (d := d + 41) (P := pm_k X (d + 49) 182 58 [some (.ref 82), some (.int (nI j)), some (.int 2), some (.int x)] [] (pm_S0 ++ g).length Q) (J := J) (g := g) (v := I 8 j) hj (h7.trans hk) h8 rfl x (I1 118) (r := 0) (by omega)
    simp only [Nat.add_assoc, Nat.reduceAdd] at u
    simp only [e_M_act_0, e_M_act_1, e_M_act_2, e_M_act_5, e_M_act_6, e_M_act_7, e_M_act_10, e_M_act_13, e_M_act_14, e_M_act_15, e_M_act_16, e_M_act_17, e_M_act_20, e_M_act_23, e_M_act_24, e_M_act_25, e_M_act_26, e_M_act_29, e_M_act_30, e_M_act_31, e_M_act_32, e_M_act_35, e_M_act_38, e_M_act_39, e_M_act_40, e_M_act_43, e_M_act_44, e_M_act_45, e_M_act_46, e_M_act_49, e_M_act_52, e_M_act_53, e_M_act_54, e_M_act_55, e_M_act_58, sh_o_82, u, show ((2 : Int32) = 0) = False by decide, show ((2 : Int32) = 1) = False by decide, pm_opt_some, pm_opt_none, pm_opt_if, Bool.false_eq_true, Bool.not_false, Bool.not_true, if_false, if_true, true_and, and_true, true_or, or_true, not_true_eq_false, not_false_eq_true, q10, q00, q01, q11, pk_v, pk_i, pk_l, pk_r]
theorem Pair_act_1_0 (hg : g.length ≤ 600) (hR : Rel I J) (hj : j < 16) (hk : I 7 j = 1) : Pair X 28 182 [.int (nI j), .int 0, .int x] g I J := by
  refine act_pair (v := x + nI j) (tr := [10]) (n := 1) (m := 0) hR hj (by omega) (by decide) (fun d P => ?_) (fun I1 h7 h8 d Q => ?_)
  · have hc2 : actI I j 33 2 = nI j := by
      unfold actI
      simp only [pw_eq, pw_ne, pu_eq, pu_ne, upd_app, Nat.reduceEqDiff, not_false_eq_true, if_false, if_true]
    have hk2 : actI I j 33 3 = 1 := by
      unfold actI
      simp only [pw_eq, pw_ne, pu_eq, pu_ne, upd_app, Nat.reduceEqDiff, not_false_eq_true, if_false, if_true]
      exact hk
    have hv2 : actI I j 33 4 = I 8 j := by
      unfold actI
      simp only [pw_eq, pw_ne, pu_eq, pu_ne, upd_app, Nat.reduceEqDiff, not_false_eq_true, if_false, if_true]
    have u := K_A_p1_0_1 (X := X) (d := d + 44) (P := P) (J := J) (g := g) hg hc2 hk2 hv2 x (I 34) (r := 0) (e := 0) (by omega) (by omega)
    rw [nI_0] at u
    rw [hk]
    exact u
  · have u := K_M_fr1 (X := X) (d := d + 46) (P := pm_k X (d + 49) 182 35 [some (.ref 82), some (.int (nI j)), some (.int 0), some (.int x)] [] (pm_S0 ++ g).length Q) (J := J) (g := g) (v := I 8 j) hj (h7.trans hk) h8 rfl x (I1 118) (r := 0) (by omega)
    simp only [Nat.add_assoc, Nat.reduceAdd] at u
    simp only [e_M_act_0, e_M_act_1, e_M_act_2, e_M_act_5, e_M_act_6, e_M_act_7, e_M_act_10, e_M_act_13, e_M_act_14, e_M_act_15, e_M_act_16, e_M_act_17, e_M_act_20, e_M_act_23, e_M_act_24, e_M_act_25, e_M_act_26, e_M_act_29, e_M_act_30, e_M_act_31, e_M_act_32, e_M_act_35, e_M_act_38, e_M_act_39, e_M_act_40, e_M_act_43, e_M_act_44, e_M_act_45, e_M_act_46, e_M_act_49, e_M_act_52, e_M_act_53, e_M_act_54, e_M_act_55, e_M_act_58, sh_o_82, u, show ((2 : Int32) = 0) = False by decide, show ((2 : Int32) = 1) = False by decide, pm_opt_some, pm_opt_none, pm_opt_if, Bool.false_eq_true, Bool.not_false, Bool.not_true, if_false, if_true, true_and, and_true, true_or, or_true, not_true_eq_false, not_false_eq_true, q10, q00, q01, q11, pk_v, pk_i, pk_l, pk_r]
theorem Pair_act_1_1 (hg : g.length ≤ 600) (hR : Rel I J) (hj : j < 16) (hk : I 7 j = 1) : Pair X 28 182 [.int (nI j), .int 1, .int x] g I J := by
  refine act_pair (v := ((x + nI j) - I 8 j) ^^^ 6) (tr := [20, 11, 10]) (n := 3) (m := 0) hR hj (by omega) (by decide) (fun d P => ?_) (fun I1 h7 h8 d Q => ?_)
  · have hc2 : actI I j 33 2 = nI j := by
      unfold actI
      simp only [pw_eq, pw_ne, pu_eq, pu_ne, upd_app, Nat.reduceEqDiff, not_false_eq_true, if_false, if_true]
    have hk2 : actI I j 33 3 = 1 := by
      unfold actI
      simp only [pw_eq, pw_ne, pu_eq, pu_ne, upd_app, Nat.reduceEqDiff, not_false_eq_true, if_false, if_true]
      exact hk
    have hv2 : actI I j 33 4 = I 8 j := by
      unfold actI
      simp only [pw_eq, pw_ne, pu_eq, pu_ne, upd_app, Nat.reduceEqDiff, not_false_eq_true, if_false, if_true]
    have u := K_A_p1_1_1 (X := X) (d := d + 42) (P := P) (J := J) (g := g) hg hc2 hk2 hv2 x (I 34) (r := 0) (e := 0) (by omega) (by omega)
    rw [nI_0] at u
    rw [hk]
    exact u
  · have u := K_M_go1 (X := X) (d := d + 43) (P := pm_k X (d + 49) 182 49 [some (.ref 82), some (.int (nI j)), some (.int 1), some (.int x)] [] (pm_S0 ++ g).length Q) (J := J) (g := g) (v := I 8 j) hj (h7.trans hk) h8 rfl x (I1 118) (r := 0) (by omega)
    simp only [Nat.add_assoc, Nat.reduceAdd] at u
    simp only [e_M_act_0, e_M_act_1, e_M_act_2, e_M_act_5, e_M_act_6, e_M_act_7, e_M_act_10, e_M_act_13, e_M_act_14, e_M_act_15, e_M_act_16, e_M_act_17, e_M_act_20, e_M_act_23, e_M_act_24, e_M_act_25, e_M_act_26, e_M_act_29, e_M_act_30, e_M_act_31, e_M_act_32, e_M_act_35, e_M_act_38, e_M_act_39, e_M_act_40, e_M_act_43, e_M_act_44, e_M_act_45, e_M_act_46, e_M_act_49, e_M_act_52, e_M_act_53, e_M_act_54, e_M_act_55, e_M_act_58, sh_o_82, u, show ((2 : Int32) = 0) = False by decide, show ((2 : Int32) = 1) = False by decide, pm_opt_some, pm_opt_none, pm_opt_if, Bool.false_eq_true, Bool.not_false, Bool.not_true, if_false, if_true, true_and, and_true, true_or, or_true, not_true_eq_false, not_false_eq_true, q10, q00, q01, q11, pk_v, pk_i, pk_l, pk_r]
theorem Pair_act_1_2 (hg : g.length ≤ 600) (hR : Rel I J) (hj : j < 16) (hk : I 7 j = 1) : Pair X 28 182 [.int (nI j), .int 2, .int x] g I J := by
  refine act_pair (v := (((x + nI j) - I 8 j) ^^^ 6) * 2) (tr := [12, 20, 11, 10]) (n := 4) (m := 0) hR hj (by omega) (by decide) (fun d P => ?_) (fun I1 h7 h8 d Q => ?_)
  · have hc2 : actI I j 33 2 = nI j := by
      unfold actI
      simp only [pw_eq, pw_ne, pu_eq, pu_ne, upd_app, Nat.reduceEqDiff, not_false_eq_true, if_false, if_true]
    have hk2 : actI I j 33 3 = 1 := by
      unfold actI
      simp only [pw_eq, pw_ne, pu_eq, pu_ne, upd_app, Nat.reduceEqDiff, not_false_eq_true, if_false, if_true]
      exact hk
    have hv2 : actI I j 33 4 = I 8 j := by
      unfold actI
      simp only [pw_eq, pw_ne, pu_eq, pu_ne, upd_app, Nat.reduceEqDiff, not_false_eq_true, if_false, if_true]
    have u := K_A_p1_2_1 (X := X) (d := d + 41) (P := P) (J := J) (g := g) hg hc2 hk2 hv2 x (I 34) (r := 0) (e := 0) (by omega) (by omega)
    rw [nI_0] at u
    rw [hk]
    exact u
  · have u := K_M_te1 (X := X) (d := d + 41) (P := pm_k X (d + 49) 182 58 [some (.ref 82), some (.int (nI j)), some (.int 2), some (.int x)] [] (pm_S0 ++ g).length Q) (J := J) (g := g) (v := I 8 j) hj (h7.trans hk) h8 rfl x (I1 118) (r := 0) (by omega)
    simp only [Nat.add_assoc, Nat.reduceAdd] at u
    simp only [e_M_act_0, e_M_act_1, e_M_act_2, e_M_act_5, e_M_act_6, e_M_act_7, e_M_act_10, e_M_act_13, e_M_act_14, e_M_act_15, e_M_act_16, e_M_act_17, e_M_act_20, e_M_act_23, e_M_act_24, e_M_act_25, e_M_act_26, e_M_act_29, e_M_act_30, e_M_act_31, e_M_act_32, e_M_act_35, e_M_act_38, e_M_act_39, e_M_act_40, e_M_act_43, e_M_act_44, e_M_act_45, e_M_act_46, e_M_act_49, e_M_act_52, e_M_act_53, e_M_act_54, e_M_act_55, e_M_act_58, sh_o_82, u, show ((2 : Int32) = 0) = False by decide, show ((2 : Int32) = 1) = False by decide, pm_opt_some, pm_opt_none, pm_opt_if, Bool.false_eq_true, Bool.not_false, Bool.not_true, if_false, if_true, true_and, and_true, true_or, or_true, not_true_eq_false, not_false_eq_true, q10, q00, q01, q11, pk_v, pk_i, pk_l, pk_r]
theorem Pair_act_2_0 (hg : g.length ≤ 600) (hR : Rel I J) (hj : j < 16) (hk : I 7 j = 2) : Pair X 28 182 [.int (nI j), .int 0, .int x] g I J := by
  refine act_pair (v := x * 3 + nI j) (tr := [30, 10]) (n := 2) (m := 0) hR hj (by omega) (by decide) (fun d P => ?_) (fun I1 h7 h8 d Q => ?_)
  · have hc2 : actI I j 33 2 = nI j := by
      unfold actI
      simp only [pw_eq, pw_ne, pu_eq, pu_ne, upd_app, Nat.reduceEqDiff, not_false_eq_true, if_false, if_true]
    have hk2 : actI I j 33 3 = 2 := by
      unfold actI
      simp only [pw_eq, pw_ne, pu_eq, pu_ne, upd_app, Nat.reduceEqDiff, not_false_eq_true, if_false, if_true]
      exact hk
    have hv2 : actI I j 33 4 = I 8 j := by
      unfold actI
      simp only [pw_eq, pw_ne, pu_eq, pu_ne, upd_app, Nat.reduceEqDiff, not_false_eq_true, if_false, if_true]
    have u := K_A_p2_0_2 (X := X) (d := d + 43) (P := P) (J := J) (g := g) hg hc2 hk2 hv2 x (I 34) (r := 0) (e := 0) (by omega) (by omega)
    rw [nI_0] at u
    rw [hk]
    exact u
  · have u := K_M_fr2 (X := X) (d := d + 46) (P := pm_k X (d + 49) 182 35 [some (.ref 82), some (.int (nI j)), some (.int 0), some (.int x)] [] (pm_S0 ++ g).length Q) (J := J) (g := g) (v := I 8 j) hj (h7.trans hk) h8 rfl x (I1 118) (r := 0) (by omega)
    simp only [Nat.add_assoc, Nat.reduceAdd] at u
    simp only [e_M_act_0, e_M_act_1, e_M_act_2, e_M_act_5, e_M_act_6, e_M_act_7, e_M_act_10, e_M_act_13, e_M_act_14, e_M_act_15, e_M_act_16, e_M_act_17, e_M_act_20, e_M_act_23, e_M_act_24, e_M_act_25, e_M_act_26, e_M_act_29, e_M_act_30, e_M_act_31, e_M_act_32, e_M_act_35, e_M_act_38, e_M_act_39, e_M_act_40, e_M_act_43, e_M_act_44, e_M_act_45, e_M_act_46, e_M_act_49, e_M_act_52, e_M_act_53, e_M_act_54, e_M_act_55, e_M_act_58, sh_o_82, u, show ((2 : Int32) = 0) = False by decide, show ((2 : Int32) = 1) = False by decide, pm_opt_some, pm_opt_none, pm_opt_if, Bool.false_eq_true, Bool.not_false, Bool.not_true, if_false, if_true, true_and, and_true, true_or, or_true, not_true_eq_false, not_false_eq_true, q10, q00, q01, q11, pk_v, pk_i, pk_l, pk_r]
theorem Pair_act_2_1 (hg : g.length ≤ 600) (hR : Rel I J) (hj : j < 16) (hk : I 7 j = 2) : Pair X 28 182 [.int (nI j), .int 1, .int x] g I J := by
  refine act_pair (v := (x * 3 + nI j) - I 8 j) (tr := [11, 30, 10]) (n := 3) (m := 0) hR hj (by omega) (by decide) (fun d P => ?_) (fun I1 h7 h8 d Q => ?_)
  · have hc2 : actI I j 33 2 = nI j := by
      unfold actI
      simp only [pw_eq, pw_ne, pu_eq, pu_ne, upd_app, Nat.reduceEqDiff, not_false_eq_true, if_false, if_true]
    have hk2 : actI I j 33 3 = 2 := by
      unfold actI
      simp only [pw_eq, pw_ne, pu_eq, pu_ne, upd_app, Nat.reduceEqDiff, not_false_eq_true, if_false, if_true]
      exact hk
    have hv2 : actI I j 33 4 = I 8 j := by
      unfold actI
      simp only [pw_eq, pw_ne, pu_eq, pu_ne, upd_app, Nat.reduceEqDiff, not_false_eq_true, if_false, if_true]
    have u := K_A_p2_1_2 (X := X) (d := d + 42) (P := P) (J := J) (g := g) hg hc2 hk2 hv2 x (I 34) (r := 0) (e := 0) (by omega) (by omega)
    rw [nI_0] at u
    rw [hk]
    exact u
  · have u := K_M_go2 (X := X) (d := d + 43) (P := pm_k X (d + 49) 182 49 [some (.ref 82), some (.int (nI j)), some (.int 1), some (.int x)] [] (pm_S0 ++ g).length Q) (J := J) (g := g) (v := I 8 j) hj (h7.trans hk) h8 rfl x (I1 118) (r := 0) (by omega)
    simp only [Nat.add_assoc, Nat.reduceAdd] at u
    simp only [e_M_act_0, e_M_act_1, e_M_act_2, e_M_act_5, e_M_act_6, e_M_act_7, e_M_act_10, e_M_act_13, e_M_act_14, e_M_act_15, e_M_act_16, e_M_act_17, e_M_act_20, e_M_act_23, e_M_act_24, e_M_act_25, e_M_act_26, e_M_act_29, e_M_act_30, e_M_act_31, e_M_act_32, e_M_act_35, e_M_act_38, e_M_act_39, e_M_act_40, e_M_act_43, e_M_act_44, e_M_act_45, e_M_act_46, e_M_act_49, e_M_act_52, e_M_act_53, e_M_act_54, e_M_act_55, e_M_act_58, sh_o_82, u, show ((2 : Int32) = 0) = False by decide, show ((2 : Int32) = 1) = False by decide, pm_opt_some, pm_opt_none, pm_opt_if, Bool.false_eq_true, Bool.not_false, Bool.not_true, if_false, if_true, true_and, and_true, true_or, or_true, not_true_eq_false, not_false_eq_true, q10, q00, q01, q11, pk_v, pk_i, pk_l, pk_r]
theorem Pair_act_2_2 (hg : g.length ≤ 600) (hR : Rel I J) (hj : j < 16) (hk : I 7 j = 2) : Pair X 28 182 [.int (nI j), .int 2, .int x] g I J := by
  refine act_pair (v := ((x * 3 + nI j) - I 8 j) * 2) (tr := [12, 11, 30, 10]) (n := 4) (m := 0) hR hj (by omega) (by decide) (fun d P => ?_) (fun I1 h7 h8 d Q => ?_)
  · have hc2 : actI I j 33 2 = nI j := by
      unfold actI
      simp only [pw_eq, pw_ne, pu_eq, pu_ne, upd_app, Nat.reduceEqDiff, not_false_eq_true, if_false, if_true]
    have hk2 : actI I j 33 3 = 2 := by
      unfold actI
      simp only [pw_eq, pw_ne, pu_eq, pu_ne, upd_app, Nat.reduceEqDiff, not_false_eq_true, if_false, if_true]
      exact hk
    have hv2 : actI I j 33 4 = I 8 j := by
      unfold actI
      simp only [pw_eq, pw_ne, pu_eq, pu_ne, upd_app, Nat.reduceEqDiff, not_false_eq_true, if_false, if_true]
    have u := K_A_p2_2_2 (X := X) (d := d + 41) (P := P) (J := J) (g := g) hg hc2 hk2 hv2 x (I 34) (r := 0) (e := 0) (by omega) (by omega)
    rw [nI_0] at u
    rw [hk]
    exact u
  · have u := K_M_te2 (X := X) (d := d + 41) (P := pm_k X (d + 49) 182 58 [some (.ref 82), some (.int (nI j)), some (.int 2), some (.int x)] [] (pm_S0 ++ g).length Q) (J := J) (g := g) (v := I 8 j) hj (h7.trans hk) h8 rfl x (I1 118) (r := 0) (by omega)
    simp only [Nat.add_assoc, Nat.reduceAdd] at u
    simp only [e_M_act_0, e_M_act_1, e_M_act_2, e_M_act_5, e_M_act_6, e_M_act_7, e_M_act_10, e_M_act_13, e_M_act_14, e_M_act_15, e_M_act_16, e_M_act_17, e_M_act_20, e_M_act_23, e_M_act_24, e_M_act_25, e_M_act_26, e_M_act_29, e_M_act_30, e_M_act_31, e_M_act_32, e_M_act_35, e_M_act_38, e_M_act_39, e_M_act_40, e_M_act_43, e_M_act_44, e_M_act_45, e_M_act_46, e_M_act_49, e_M_act_52, e_M_act_53, e_M_act_54, e_M_act_55, e_M_act_58, sh_o_82, u, show ((2 : Int32) = 0) = False by decide, show ((2 : Int32) = 1) = False by decide, pm_opt_some, pm_opt_none, pm_opt_if, Bool.false_eq_true, Bool.not_false, Bool.not_true, if_false, if_true, true_and, and_true, true_or, or_true, not_true_eq_false, not_false_eq_true, q10, q00, q01, q11, pk_v, pk_i, pk_l, pk_r]
theorem Pair_act_3_0 (hg : g.length ≤ 600) (hR : Rel I J) (hj : j < 16) (hk : I 7 j = 3) : Pair X 28 182 [.int (nI j), .int 0, .int x] g I J := by
  refine act_pair (v := -(x + nI j)) (tr := [50, 10]) (n := 2) (m := 0) hR hj (by omega) (by decide) (fun d P => ?_) (fun I1 h7 h8 d Q => ?_)
  · have hc2 : actI I j 33 2 = nI j := by
      unfold actI
      simp only [pw_eq, pw_ne, pu_eq, pu_ne, upd_app, Nat.reduceEqDiff, not_false_eq_true, if_false, if_true]
    have hk2 : actI I j 33 3 = 3 := by
      unfold actI
      simp only [pw_eq, pw_ne, pu_eq, pu_ne, upd_app, Nat.reduceEqDiff, not_false_eq_true, if_false, if_true]
      exact hk
    have hv2 : actI I j 33 4 = I 8 j := by
      unfold actI
      simp only [pw_eq, pw_ne, pu_eq, pu_ne, upd_app, Nat.reduceEqDiff, not_false_eq_true, if_false, if_true]
    have u := K_A_p3_0_3 (X := X) (d := d + 43) (P := P) (J := J) (g := g) hg hc2 hk2 hv2 x (I 34) (r := 0) (e := 0) (by omega) (by omega)
    rw [nI_0] at u
    rw [hk]
    exact u
  · have u := K_M_fr3 (X := X) (d := d + 46) (P := pm_k X (d + 49) 182 35 [some (.ref 82), some (.int (nI j)), some (.int 0), some (.int x)] [] (pm_S0 ++ g).length Q) (J := J) (g := g) (v := I 8 j) hj (h7.trans hk) h8 rfl x (I1 118) (r := 0) (by omega)
    simp only [Nat.add_assoc, Nat.reduceAdd] at u
    simp only [e_M_act_0, e_M_act_1, e_M_act_2, e_M_act_5, e_M_act_6, e_M_act_7, e_M_act_10, e_M_act_13, e_M_act_14, e_M_act_15, e_M_act_16, e_M_act_17, e_M_act_20, e_M_act_23, e_M_act_24, e_M_act_25, e_M_act_26, e_M_act_29, e_M_act_30, e_M_act_31, e_M_act_32, e_M_act_35, e_M_act_38, e_M_act_39, e_M_act_40, e_M_act_43, e_M_act_44, e_M_act_45, e_M_act_46, e_M_act_49, e_M_act_52, e_M_act_53, e_M_act_54, e_M_act_55, e_M_act_58, sh_o_82, u, show ((2 : Int32) = 0) = False by decide, show ((2 : Int32) = 1) = False by decide, pm_opt_some, pm_opt_none, pm_opt_if, Bool.false_eq_true, Bool.not_false, Bool.not_true, if_false, if_true, true_and, and_true, true_or, or_true, not_true_eq_false, not_false_eq_true, q10, q00, q01, q11, pk_v, pk_i, pk_l, pk_r]
theorem Pair_act_3_1 (hg : g.length ≤ 600) (hR : Rel I J) (hj : j < 16) (hk : I 7 j = 3) : Pair X 28 182 [.int (nI j), .int 1, .int x] g I J := by
  refine act_pair (v := (-((x + 1) + nI j)) - I 8 j) (tr := [51, 11, 50, 10]) (n := 4) (m := 0) hR hj (by omega) (by decide) (fun d P => ?_) (fun I1 h7 h8 d Q => ?_)
  · have hc2 : actI I j 33 2 = nI j := by
      unfold actI
      simp only [pw_eq, pw_ne, pu_eq, pu_ne, upd_app, Nat.reduceEqDiff, not_false_eq_true, if_false, if_true]
    have hk2 : actI I j 33 3 = 3 := by
      unfold actI
      simp only [pw_eq, pw_ne, pu_eq, pu_ne, upd_app, Nat.reduceEqDiff, not_false_eq_true, if_false, if_true]
      exact hk
    have hv2 : actI I j 33 4 = I 8 j := by
      unfold actI
      simp only [pw_eq, pw_ne, pu_eq, pu_ne, upd_app, Nat.reduceEqDiff, not_false_eq_true, if_false, if_true]
    have u := K_A_p3_1_3 (X := X) (d := d + 41) (P := P) (J := J) (g := g) hg hc2 hk2 hv2 x (I 34) (r := 0) (e := 0) (by omega) (by omega)
    rw [nI_0] at u
    rw [hk]
    exact u
  · have u := K_M_go3 (X := X) (d := d + 43) (P := pm_k X (d + 49) 182 49 [some (.ref 82), some (.int (nI j)), some (.int 1), some (.int x)] [] (pm_S0 ++ g).length Q) (J := J) (g := g) (v := I 8 j) hj (h7.trans hk) h8 rfl x (I1 118) (r := 0) (by omega)
    simp only [Nat.add_assoc, Nat.reduceAdd] at u
    simp only [e_M_act_0, e_M_act_1, e_M_act_2, e_M_act_5, e_M_act_6, e_M_act_7, e_M_act_10, e_M_act_13, e_M_act_14, e_M_act_15, e_M_act_16, e_M_act_17, e_M_act_20, e_M_act_23, e_M_act_24, e_M_act_25, e_M_act_26, e_M_act_29, e_M_act_30, e_M_act_31, e_M_act_32, e_M_act_35, e_M_act_38, e_M_act_39, e_M_act_40, e_M_act_43, e_M_act_44, e_M_act_45, e_M_act_46, e_M_act_49, e_M_act_52, e_M_act_53, e_M_act_54, e_M_act_55, e_M_act_58, sh_o_82, u, show ((2 : Int32) = 0) = False by decide, show ((2 : Int32) = 1) = False by decide, pm_opt_some, pm_opt_none, pm_opt_if, Bool.false_eq_true, Bool.not_false, Bool.not_true, if_false, if_true, true_and, and_true, true_or, or_true, not_true_eq_false, not_false_eq_true, q10, q00, q01, q11, pk_v, pk_i, pk_l, pk_r]
theorem Pair_act_3_2 (hg : g.length ≤ 600) (hR : Rel I J) (hj : j < 16) (hk : I 7 j = 3) : Pair X 28 182 [.int (nI j), .int 2, .int x] g I J := by
  refine act_pair (v := ((-((x + 1) + nI j)) - I 8 j) * 2) (tr := [12, 51, 11, 50, 10]) (n := 5) (m := 0) hR hj (by omega) (by decide) (fun d P => ?_) (fun I1 h7 h8 d Q => ?_)
  · have hc2 : actI I j 33 2 = nI j := by
      unfold actI
      simp only [pw_eq, pw_ne, pu_eq, pu_ne, upd_app, Nat.reduceEqDiff, not_false_eq_true, if_false, if_true]
    have hk2 : actI I j 33 3 = 3 := by
      unfold actI
      simp only [pw_eq, pw_ne, pu_eq, pu_ne, upd_app, Nat.reduceEqDiff, not_false_eq_true, if_false, if_true]
      exact hk
    have hv2 : actI I j 33 4 = I 8 j := by
      unfold actI
      simp only [pw_eq, pw_ne, pu_eq, pu_ne, upd_app, Nat.reduceEqDiff, not_false_eq_true, if_false, if_true]
    have u := K_A_p3_2_3 (X := X) (d := d + 40) (P := P) (J := J) (g := g) hg hc2 hk2 hv2 x (I 34) (r := 0) (e := 0) (by omega) (by omega)
    rw [nI_0] at u
    rw [hk]
    exact u
  · have u := K_M_te3 (X := X) (d := d + 41) (P := pm_k X (d + 49) 182 58 [some (.ref 82), some (.int (nI j)), some (.int 2), some (.int x)] [] (pm_S0 ++ g).length Q) (J := J) (g := g) (v := I 8 j) hj (h7.trans hk) h8 rfl x (I1 118) (r := 0) (by omega)
    simp only [Nat.add_assoc, Nat.reduceAdd] at u
    simp only [e_M_act_0, e_M_act_1, e_M_act_2, e_M_act_5, e_M_act_6, e_M_act_7, e_M_act_10, e_M_act_13, e_M_act_14, e_M_act_15, e_M_act_16, e_M_act_17, e_M_act_20, e_M_act_23, e_M_act_24, e_M_act_25, e_M_act_26, e_M_act_29, e_M_act_30, e_M_act_31, e_M_act_32, e_M_act_35, e_M_act_38, e_M_act_39, e_M_act_40, e_M_act_43, e_M_act_44, e_M_act_45, e_M_act_46, e_M_act_49, e_M_act_52, e_M_act_53, e_M_act_54, e_M_act_55, e_M_act_58, sh_o_82, u, show ((2 : Int32) = 0) = False by decide, show ((2 : Int32) = 1) = False by decide, pm_opt_some, pm_opt_none, pm_opt_if, Bool.false_eq_true, Bool.not_false, Bool.not_true, if_false, if_true, true_and, and_true, true_or, or_true, not_true_eq_false, not_false_eq_true, q10, q00, q01, q11, pk_v, pk_i, pk_l, pk_r]
theorem Pair_act_4_0 (hg : g.length ≤ 600) (hR : Rel I J) (hj : j < 16) (hk : I 7 j = 4) : Pair X 28 182 [.int (nI j), .int 0, .int x] g I J := by
  refine act_pair (v := x + nI j) (tr := [10]) (n := 1) (m := 0) hR hj (by omega) (by decide) (fun d P => ?_) (fun I1 h7 h8 d Q => ?_)
  · have hc2 : actI I j 33 2 = nI j := by
      unfold actI
      simp only [pw_eq, pw_ne, pu_eq, pu_ne, upd_app, Nat.reduceEqDiff, not_false_eq_true, if_false, if_true]
    have hk2 : actI I j 33 3 = 4 := by
      unfold actI
      simp only [pw_eq, pw_ne, pu_eq, pu_ne, upd_app, Nat.reduceEqDiff, not_false_eq_true, if_false, if_true]
      exact hk
    have hv2 : actI I j 33 4 = I 8 j := by
      unfold actI
      simp only [pw_eq, pw_ne, pu_eq, pu_ne, upd_app, Nat.reduceEqDiff, not_false_eq_true, if_false, if_true]
    have u := K_A_p4_0_4 (X := X) (d := d + 44) (P := P) (J := J) (g := g) hg hc2 hk2 hv2 x (I 34) (r := 0) (e := 0) (by omega) (by omega)
    rw [nI_0] at u
    rw [hk]
    exact u
  · have u := K_M_fr4 (X := X) (d := d + 46) (P := pm_k X (d + 49) 182 35 [some (.ref 82), some (.int (nI j)), some (.int 0), some (.int x)] [] (pm_S0 ++ g).length Q) (J := J) (g := g) (v := I 8 j) hj (h7.trans hk) h8 rfl x (I1 118) (r := 0) (by omega)
    simp only [Nat.add_assoc, Nat.reduceAdd] at u
    simp only [e_M_act_0, e_M_act_1, e_M_act_2, e_M_act_5, e_M_act_6, e_M_act_7, e_M_act_10, e_M_act_13, e_M_act_14, e_M_act_15, e_M_act_16, e_M_act_17, e_M_act_20, e_M_act_23, e_M_act_24, e_M_act_25, e_M_act_26, e_M_act_29, e_M_act_30, e_M_act_31, e_M_act_32, e_M_act_35, e_M_act_38, e_M_act_39, e_M_act_40, e_M_act_43, e_M_act_44, e_M_act_45, e_M_act_46, e_M_act_49, e_M_act_52, e_M_act_53, e_M_act_54, e_M_act_55, e_M_act_58, sh_o_82, u, show ((2 : Int32) = 0) = False by decide, show ((2 : Int32) = 1) = False by decide, pm_opt_some, pm_opt_none, pm_opt_if, Bool.false_eq_true, Bool.not_false, Bool.not_true, if_false, if_true, true_and, and_true, true_or, or_true, not_true_eq_false, not_false_eq_true, q10, q00, q01, q11, pk_v, pk_i, pk_l, pk_r]
theorem Pair_act_4_1 (hg : g.length ≤ 600) (hR : Rel I J) (hj : j < 16) (hk : I 7 j = 4) : Pair X 28 182 [.int (nI j), .int 1, .int x] g I J := by
  refine act_pair (v := (x + nI j) - I 8 j) (tr := [11, 10]) (n := 2) (m := 0) hR hj (by omega) (by decide) (fun d P => ?_) (fun I1 h7 h8 d Q => ?_)
  · have hc2 : actI I j 33 2 = nI j := by
      unfold actI
      simp only [pw_eq, pw_ne, pu_eq, pu_ne, upd_app, Nat.reduceEqDiff, not_false_eq_true, if_false, if_true]
    have hk2 : actI I j 33 3 = 4 := by
      unfold actI
      simp only [pw_eq, pw_ne, pu_eq, pu_ne, upd_app, Nat.reduceEqDiff, not_false_eq_true, if_false, if_true]
      exact hk
    have hv2 : actI I j 33 4 = I 8 j := by
      unfold actI
      simp only [pw_eq, pw_ne, pu_eq, pu_ne, upd_app, Nat.reduceEqDiff, not_false_eq_true, if_false, if_true]
    have u := K_A_p4_1_4 (X := X) (d := d + 43) (P := P) (J := J) (g := g) hg hc2 hk2 hv2 x (I 34) (r := 0) (e := 0) (by omega) (by omega)
    rw [nI_0] at u
    rw [hk]
    exact u
  · have u := K_M_go4 (X := X) (d := d + 43) (P := pm_k X (d + 49) 182 49 [some (.ref 82), some (.int (nI j)), some (.int 1), some (.int x)] [] (pm_S0 ++ g).length Q) (J := J) (g := g) (v := I 8 j) hj (h7.trans hk) h8 rfl x (I1 118) (r := 0) (by omega)
    simp only [Nat.add_assoc, Nat.reduceAdd] at u
    simp only [e_M_act_0, e_M_act_1, e_M_act_2, e_M_act_5, e_M_act_6, e_M_act_7, e_M_act_10, e_M_act_13, e_M_act_14, e_M_act_15, e_M_act_16, e_M_act_17, e_M_act_20, e_M_act_23, e_M_act_24, e_M_act_25, e_M_act_26, e_M_act_29, e_M_act_30, e_M_act_31, e_M_act_32, e_M_act_35, e_M_act_38, e_M_act_39, e_M_act_40, e_M_act_43, e_M_act_44, e_M_act_45, e_M_act_46, e_M_act_49, e_M_act_52, e_M_act_53, e_M_act_54, e_M_act_55, e_M_act_58, sh_o_82, u, show ((2 : Int32) = 0) = False by decide, show ((2 : Int32) = 1) = False by decide, pm_opt_some, pm_opt_none, pm_opt_if, Bool.false_eq_true, Bool.not_false, Bool.not_true, if_false, if_true, true_and, and_true, true_or, or_true, not_true_eq_false, not_false_eq_true, q10, q00, q01, q11, pk_v, pk_i, pk_l, pk_r]
theorem Pair_act_4_2 (hg : g.length ≤ 600) (hR : Rel I J) (hj : j < 16) (hk : I 7 j = 4) : Pair X 28 182 [.int (nI j), .int 2, .int x] g I J := by
  refine act_pair (v := (((x + nI j) - I 8 j) * 2) + ((1 + nI j) - I 8 j)) (tr := [40, 12, 11, 10, 11, 10]) (n := 6) (m := 0) hR hj (by omega) (by decide) (fun d P => ?_) (fun I1 h7 h8 d Q => ?_)
  · have hc2 : actI I j 33 2 = nI j := by
      unfold actI
      simp only [pw_eq, pw_ne, pu_eq, pu_ne, upd_app, Nat.reduceEqDiff, not_false_eq_true, if_false, if_true]
    have hk2 : actI I j 33 3 = 4 := by
      unfold actI
      simp only [pw_eq, pw_ne, pu_eq, pu_ne, upd_app, Nat.reduceEqDiff, not_false_eq_true, if_false, if_true]
      exact hk
    have hv2 : actI I j 33 4 = I 8 j := by
      unfold actI
      simp only [pw_eq, pw_ne, pu_eq, pu_ne, upd_app, Nat.reduceEqDiff, not_false_eq_true, if_false, if_true]
    have u := K_A_p4_2_4 (X := X) (d := d + 41) (P := P) (J := J) (g := g) hg hc2 hk2 hv2 x (I 34) (r := 0) (e := 0) (by omega) (by omega)
    rw [nI_0] at u
    rw [hk]
    exact u
  · have u := K_M_te4 (X := X) (d := d + 41) (P := pm_k X (d + 49) 182 58 [some (.ref 82), some (.int (nI j)), some (.int 2), some (.int x)] [] (pm_S0 ++ g).length Q) (J := J) (g := g) (v := I 8 j) hj (h7.trans hk) h8 rfl x (I1 118) (r := 0) (by omega)
    simp only [Nat.add_assoc, Nat.reduceAdd] at u
    simp only [e_M_act_0, e_M_act_1, e_M_act_2, e_M_act_5, e_M_act_6, e_M_act_7, e_M_act_10, e_M_act_13, e_M_act_14, e_M_act_15, e_M_act_16, e_M_act_17, e_M_act_20, e_M_act_23, e_M_act_24, e_M_act_25, e_M_act_26, e_M_act_29, e_M_act_30, e_M_act_31, e_M_act_32, e_M_act_35, e_M_act_38, e_M_act_39, e_M_act_40, e_M_act_43, e_M_act_44, e_M_act_45, e_M_act_46, e_M_act_49, e_M_act_52, e_M_act_53, e_M_act_54, e_M_act_55, e_M_act_58, sh_o_82, u, show ((2 : Int32) = 0) = False by decide, show ((2 : Int32) = 1) = False by decide, pm_opt_some, pm_opt_none, pm_opt_if, Bool.false_eq_true, Bool.not_false, Bool.not_true, if_false, if_true, true_and, and_true, true_or, or_true, not_true_eq_false, not_false_eq_true, q10, q00, q01, q11, pk_v, pk_i, pk_l, pk_r]
theorem Pair_act_5_0 (hg : g.length ≤ 600) (hR : Rel I J) (hj : j < 16) (hk : I 7 j = 5) : Pair X 28 182 [.int (nI j), .int 0, .int x] g I J := by
  refine act_pair (v := x * 3 + nI j) (tr := [30, 10]) (n := 2) (m := 0) hR hj (by omega) (by decide) (fun d P => ?_) (fun I1 h7 h8 d Q => ?_)
  · have hc2 : actI I j 33 2 = nI j := by
      unfold actI
      simp only [pw_eq, pw_ne, pu_eq, pu_ne, upd_app, Nat.reduceEqDiff, not_false_eq_true, if_false, if_true]
    have hk2 : actI I j 33 3 = 5 := by
      unfold actI
      simp only [pw_eq, pw_ne, pu_eq, pu_ne, upd_app, Nat.reduceEqDiff, not_false_eq_true, if_false, if_true]
      exact hk
    have hv2 : actI I j 33 4 = I 8 j := by
      unfold actI
      simp only [pw_eq, pw_ne, pu_eq, pu_ne, upd_app, Nat.reduceEqDiff, not_false_eq_true, if_false, if_true]
    have u := K_A_p5_0_5 (X := X) (d := d + 43) (P := P) (J := J) (g := g) hg hc2 hk2 hv2 x (I 34) (r := 0) (e := 0) (by omega) (by omega)
    rw [nI_0] at u
    rw [hk]
    exact u
  · have u := K_M_fr5 (X := X) (d := d + 46) (P := pm_k X (d + 49) 182 35 [some (.ref 82), some (.int (nI j)), some (.int 0), some (.int x)] [] (pm_S0 ++ g).length Q) (J := J) (g := g) (v := I 8 j) hj (h7.trans hk) h8 rfl x (I1 118) (r := 0) (by omega)
    simp only [Nat.add_assoc, Nat.reduceAdd] at u
    simp only [e_M_act_0, e_M_act_1, e_M_act_2, e_M_act_5, e_M_act_6, e_M_act_7, e_M_act_10, e_M_act_13, e_M_act_14, e_M_act_15, e_M_act_16, e_M_act_17, e_M_act_20, e_M_act_23, e_M_act_24, e_M_act_25, e_M_act_26, e_M_act_29, e_M_act_30, e_M_act_31, e_M_act_32, e_M_act_35, e_M_act_38, e_M_act_39, e_M_act_40, e_M_act_43, e_M_act_44, e_M_act_45, e_M_act_46, e_M_act_49, e_M_act_52, e_M_act_53, e_M_act_54, e_M_act_55, e_M_act_58, sh_o_82, u, show ((2 : Int32) = 0) = False by decide, show ((2 : Int32) = 1) = False by decide, pm_opt_some, pm_opt_none, pm_opt_if, Bool.false_eq_true, Bool.not_false, Bool.not_true, if_false, if_true, true_and, and_true, true_or, or_true, not_true_eq_false, not_false_eq_true, q10, q00, q01, q11, pk_v, pk_i, pk_l, pk_r]
theorem Pair_act_5_1 (hg : g.length ≤ 600) (hR : Rel I J) (hj : j < 16) (hk : I 7 j = 5) : Pair X 28 182 [.int (nI j), .int 1, .int x] g I J := by
  refine act_pair (v := (x * 3 + nI j) - I 8 j) (tr := [11, 30, 10]) (n := 3) (m := 0) hR hj (by omega) (by decide) (fun d P => ?_) (fun I1 h7 h8 d Q => ?_)
  · have hc2 : actI I j 33 2 = nI j := by
      unfold actI
      simp only [pw_eq, pw_ne, pu_eq, pu_ne, upd_app, Nat.reduceEqDiff, not_false_eq_true, if_false, if_true]
    have hk2 : actI I j 33 3 = 5 := by
      unfold actI
      simp only [pw_eq, pw_ne, pu_eq, pu_ne, upd_app, Nat.reduceEqDiff, not_false_eq_true, if_false, if_true]
      exact hk
    have hv2 : actI I j 33 4 = I 8 j := by
      unfold actI
      simp only [pw_eq, pw_ne, pu_eq, pu_ne, upd_app, Nat.reduceEqDiff, not_false_eq_true, if_false, if_true]
    have u := K_A_p5_1_5 (X := X) (d := d + 42) (P := P) (J := J) (g := g) hg hc2 hk2 hv2 x (I 34) (r := 0) (e := 0) (by omega) (by omega)
    rw [nI_0] at u
    rw [hk]
    exact u
  · have u := K_M_go5 (X := X) (d := d + 43) (P := pm_k X (d + 49) 182 49 [some (.ref 82), some (.int (nI j)), some (.int 1), some (.int x)] [] (pm_S0 ++ g).length Q) (J := J) (g := g) (v := I 8 j) hj (h7.trans hk) h8 rfl x (I1 118) (r := 0) (by omega)
    simp only [Nat.add_assoc, Nat.reduceAdd] at u
    simp only [e_M_act_0, e_M_act_1, e_M_act_2, e_M_act_5, e_M_act_6, e_M_act_7, e_M_act_10, e_M_act_13, e_M_act_14, e_M_act_15, e_M_act_16, e_M_act_17, e_M_act_20, e_M_act_23, e_M_act_24, e_M_act_25, e_M_act_26, e_M_act_29, e_M_act_30, e_M_act_31, e_M_act_32, e_M_act_35, e_M_act_38, e_M_act_39, e_M_act_40, e_M_act_43, e_M_act_44, e_M_act_45, e_M_act_46, e_M_act_49, e_M_act_52, e_M_act_53, e_M_act_54, e_M_act_55, e_M_act_58, sh_o_82, u, show ((2 : Int32) = 0) = False by decide, show ((2 : Int32) = 1) = False by decide, pm_opt_some, pm_opt_none, pm_opt_if, Bool.false_eq_true, Bool.not_false, Bool.not_true, if_false, if_true, true_and, and_true, true_or, or_true, not_true_eq_false, not_false_eq_true, q10, q00, q01, q11, pk_v, pk_i, pk_l, pk_r]
theorem Pair_act_5_2 (hg : g.length ≤ 600) (hR : Rel I J) (hj : j < 16) (hk : I 7 j = 5) : Pair X 28 182 [.int (nI j), .int 2, .int x] g I J := by
  refine act_pair (v := (((x - nI j) * 3 + nI j) - I 8 j) * 2) (tr := [60, 12, 11, 30, 10]) (n := 5) (m := 0) hR hj (by omega) (by decide) (fun d P => ?_) (fun I1 h7 h8 d Q => ?_)
  · have hc2 : actI I j 33 2 = nI j := by
      unfold actI
      simp only [pw_eq, pw_ne, pu_eq, pu_ne, upd_app, Nat.reduceEqDiff, not_false_eq_true, if_false, if_true]
    have hk2 : actI I j 33 3 = 5 := by
      unfold actI
      simp only [pw_eq, pw_ne, pu_eq, pu_ne, upd_app, Nat.reduceEqDiff, not_false_eq_true, if_false, if_true]
      exact hk
    have hv2 : actI I j 33 4 = I 8 j := by
      unfold actI
      simp only [pw_eq, pw_ne, pu_eq, pu_ne, upd_app, Nat.reduceEqDiff, not_false_eq_true, if_false, if_true]
    have u := K_A_p5_2_5 (X := X) (d := d + 40) (P := P) (J := J) (g := g) hg hc2 hk2 hv2 x (I 34) (r := 0) (e := 0) (by omega) (by omega)
    rw [nI_0] at u
    rw [hk]
    exact u
  · have u := K_M_te5 (X := X) (d := d + 41) (P := pm_k X (d + 49) 182 58 [some (.ref 82), some (.int (nI j)), some (.int 2), some (.int x)] [] (pm_S0 ++ g).length Q) (J := J) (g := g) (v := I 8 j) hj (h7.trans hk) h8 rfl x (I1 118) (r := 0) (by omega)
    simp only [Nat.add_assoc, Nat.reduceAdd] at u
    simp only [e_M_act_0, e_M_act_1, e_M_act_2, e_M_act_5, e_M_act_6, e_M_act_7, e_M_act_10, e_M_act_13, e_M_act_14, e_M_act_15, e_M_act_16, e_M_act_17, e_M_act_20, e_M_act_23, e_M_act_24, e_M_act_25, e_M_act_26, e_M_act_29, e_M_act_30, e_M_act_31, e_M_act_32, e_M_act_35, e_M_act_38, e_M_act_39, e_M_act_40, e_M_act_43, e_M_act_44, e_M_act_45, e_M_act_46, e_M_act_49, e_M_act_52, e_M_act_53, e_M_act_54, e_M_act_55, e_M_act_58, sh_o_82, u, show ((2 : Int32) = 0) = False by decide, show ((2 : Int32) = 1) = False by decide, pm_opt_some, pm_opt_none, pm_opt_if, Bool.false_eq_true, Bool.not_false, Bool.not_true, if_false, if_true, true_and, and_true, true_or, or_true, not_true_eq_false, not_false_eq_true, q10, q00, q01, q11, pk_v, pk_i, pk_l, pk_r]
theorem Pair_act_6_0 (hg : g.length ≤ 600) (hR : Rel I J) (hj : j < 16) (hk : I 7 j = 6) : Pair X 28 182 [.int (nI j), .int 0, .int x] g I J := by
  refine act_pair (v := -(x + nI j) ^^^ I 8 j) (tr := [71, 50, 10]) (n := 3) (m := 0) hR hj (by omega) (by decide) (fun d P => ?_) (fun I1 h7 h8 d Q => ?_)
  · have hc2 : actI I j 33 2 = nI j := by
      unfold actI
      simp only [pw_eq, pw_ne, pu_eq, pu_ne, upd_app, Nat.reduceEqDiff, not_false_eq_true, if_false, if_true]
    have hk2 : actI I j 33 3 = 6 := by
      unfold actI
      simp only [pw_eq, pw_ne, pu_eq, pu_ne, upd_app, Nat.reduceEqDiff, not_false_eq_true, if_false, if_true]
      exact hk
    have hv2 : actI I j 33 4 = I 8 j := by
      unfold actI
      simp only [pw_eq, pw_ne, pu_eq, pu_ne, upd_app, Nat.reduceEqDiff, not_false_eq_true, if_false, if_true]
    have u := K_A_p6_0_6 (X := X) (d := d + 42) (P := P) (J := J) (g := g) hg hc2 hk2 hv2 x (I 34) (r := 0) (e := 0) (by omega) (by omega)
    rw [nI_0] at u
    rw [hk]
    exact u
  · have u := K_M_fr6 (X := X) (d := d + 46) (P := pm_k X (d + 49) 182 35 [some (.ref 82), some (.int (nI j)), some (.int 0), some (.int x)] [] (pm_S0 ++ g).length Q) (J := J) (g := g) (v := I 8 j) hj (h7.trans hk) h8 rfl x (I1 118) (r := 0) (by omega)
    simp only [Nat.add_assoc, Nat.reduceAdd] at u
    simp only [e_M_act_0, e_M_act_1, e_M_act_2, e_M_act_5, e_M_act_6, e_M_act_7, e_M_act_10, e_M_act_13, e_M_act_14, e_M_act_15, e_M_act_16, e_M_act_17, e_M_act_20, e_M_act_23, e_M_act_24, e_M_act_25, e_M_act_26, e_M_act_29, e_M_act_30, e_M_act_31, e_M_act_32, e_M_act_35, e_M_act_38, e_M_act_39, e_M_act_40, e_M_act_43, e_M_act_44, e_M_act_45, e_M_act_46, e_M_act_49, e_M_act_52, e_M_act_53, e_M_act_54, e_M_act_55, e_M_act_58, sh_o_82, u, show ((2 : Int32) = 0) = False by decide, show ((2 : Int32) = 1) = False by decide, pm_opt_some, pm_opt_none, pm_opt_if, Bool.false_eq_true, Bool.not_false, Bool.not_true, if_false, if_true, true_and, and_true, true_or, or_true, not_true_eq_false, not_false_eq_true, q10, q00, q01, q11, pk_v, pk_i, pk_l, pk_r]
theorem Pair_act_6_1 (hg : g.length ≤ 600) (hR : Rel I J) (hj : j < 16) (hk : I 7 j = 6) : Pair X 28 182 [.int (nI j), .int 1, .int x] g I J := by
  refine act_pair (v := ((-((x + 1) + nI j) ^^^ I 8 j) - I 8 j) - (2 + nI j)) (tr := [70, 51, 11, 71, 50, 10, 50, 10]) (n := 8) (m := 0) hR hj (by omega) (by decide) (fun d P => ?_) (fun I1 h7 h8 d Q => ?_)
  · have hc2 : actI I j 33 2 = nI j := by
      unfold actI
      simp only [pw_eq, pw_ne, pu_eq, pu_ne, upd_app, Nat.reduceEqDiff, not_false_eq_true, if_false, if_true]
    have hk2 : actI I j 33 3 = 6 := by
      unfold actI
      simp only [pw_eq, pw_ne, pu_eq, pu_ne, upd_app, Nat.reduceEqDiff, not_false_eq_true, if_false, if_true]
      exact hk
    have hv2 : actI I j 33 4 = I 8 j := by
      unfold actI
      simp only [pw_eq, pw_ne, pu_eq, pu_ne, upd_app, Nat.reduceEqDiff, not_false_eq_true, if_false, if_true]
    have u := K_A_p6_1_6 (X := X) (d := d + 39) (P := P) (J := J) (g := g) hg hc2 hk2 hv2 x (I 34) (r := 0) (e := 0) (by omega) (by omega)
    rw [nI_0] at u
    rw [hk]
    simp only [Int32.sub_eq_add_neg] at u ⊢
    exact u
  · have u := K_M_go6 (X := X) (d := d + 43) (P := pm_k X (d + 49) 182 49 [some (.ref 82), some (.int (nI j)), some (.int 1), some (.int x)] [] (pm_S0 ++ g).length Q) (J := J) (g := g) (v := I 8 j) hj (h7.trans hk) h8 rfl x (I1 118) (r := 0) (by omega)
    simp only [Nat.add_assoc, Nat.reduceAdd] at u
    simp only [e_M_act_0, e_M_act_1, e_M_act_2, e_M_act_5, e_M_act_6, e_M_act_7, e_M_act_10, e_M_act_13, e_M_act_14, e_M_act_15, e_M_act_16, e_M_act_17, e_M_act_20, e_M_act_23, e_M_act_24, e_M_act_25, e_M_act_26, e_M_act_29, e_M_act_30, e_M_act_31, e_M_act_32, e_M_act_35, e_M_act_38, e_M_act_39, e_M_act_40, e_M_act_43, e_M_act_44, e_M_act_45, e_M_act_46, e_M_act_49, e_M_act_52, e_M_act_53, e_M_act_54, e_M_act_55, e_M_act_58, sh_o_82, u, show ((2 : Int32) = 0) = False by decide, show ((2 : Int32) = 1) = False by decide, pm_opt_some, pm_opt_none, pm_opt_if, Bool.false_eq_true, Bool.not_false, Bool.not_true, if_false, if_true, true_and, and_true, true_or, or_true, not_true_eq_false, not_false_eq_true, q10, q00, q01, q11, pk_v, pk_i, pk_l, pk_r]
theorem Pair_act_6_2 (hg : g.length ≤ 600) (hR : Rel I J) (hj : j < 16) (hk : I 7 j = 6) : Pair X 28 182 [.int (nI j), .int 2, .int x] g I J := by
  refine act_pair (v := (((-((x + 1) + nI j) ^^^ I 8 j) - I 8 j) - (2 + nI j)) * 2) (tr := [12, 70, 51, 11, 71, 50, 10, 50, 10]) (n := 9) (m := 0) hR hj (by omega) (by decide) (fun d P => ?_) (fun I1 h7 h8 d Q => ?_)
  · have hc2 : actI I j 33 2 = nI j := by
      unfold actI
      simp only [pw_eq, pw_ne, pu_eq, pu_ne, upd_app, Nat.reduceEqDiff, not_false_eq_true, if_false, if_true]
    have hk2 : actI I j 33 3 = 6 := by
      unfold actI
      simp only [pw_eq, pw_ne, pu_eq, pu_ne, upd_app, Nat.reduceEqDiff, not_false_eq_true, if_false, if_true]
      exact hk
    have hv2 : actI I j 33 4 = I 8 j := by
      unfold actI
      simp only [pw_eq, pw_ne, pu_eq, pu_ne, upd_app, Nat.reduceEqDiff, not_false_eq_true, if_false, if_true]
    have u := K_A_p6_2_6 (X := X) (d := d + 38) (P := P) (J := J) (g := g) hg hc2 hk2 hv2 x (I 34) (r := 0) (e := 0) (by omega) (by omega)
    rw [nI_0] at u
    rw [hk]
    simp only [Int32.sub_eq_add_neg] at u ⊢
    exact u
  · have u := K_M_te6 (X := X) (d := d + 41) (P := pm_k X (d + 49) 182 58 [some (.ref 82), some (.int (nI j)), some (.int 2), some (.int x)] [] (pm_S0 ++ g).length Q) (J := J) (g := g) (v := I 8 j) hj (h7.trans hk) h8 rfl x (I1 118) (r := 0) (by omega)
    simp only [Nat.add_assoc, Nat.reduceAdd] at u
    simp only [e_M_act_0, e_M_act_1, e_M_act_2, e_M_act_5, e_M_act_6, e_M_act_7, e_M_act_10, e_M_act_13, e_M_act_14, e_M_act_15, e_M_act_16, e_M_act_17, e_M_act_20, e_M_act_23, e_M_act_24, e_M_act_25, e_M_act_26, e_M_act_29, e_M_act_30, e_M_act_31, e_M_act_32, e_M_act_35, e_M_act_38, e_M_act_39, e_M_act_40, e_M_act_43, e_M_act_44, e_M_act_45, e_M_act_46, e_M_act_49, e_M_act_52, e_M_act_53, e_M_act_54, e_M_act_55, e_M_act_58, sh_o_82, u, show ((2 : Int32) = 0) = False by decide, show ((2 : Int32) = 1) = False by decide, pm_opt_some, pm_opt_none, pm_opt_if, Bool.false_eq_true, Bool.not_false, Bool.not_true, if_false, if_true, true_and, and_true, true_or, or_true, not_true_eq_false, not_false_eq_true, q10, q00, q01, q11, pk_v, pk_i, pk_l, pk_r]
theorem K_A_forget : pm_cl X (d + 1) 87 [.ref 33] (pm_S0 ++ g, I, J) P = P (none, (pm_S0 ++ g, pm_w I 33 1 0, J)) := by
  refine K_of (k := 0) (fun d' => ?_)
  show pm_V X d' 87 0 [some (.ref 33)] [] (pm_S0 ++ g, I, J) _
  simp only [e_A_forget_0, e_A_forget_1, e_A_forget_2, e_A_forget_5, sh_o_33, pm_opt_some, pm_opt_none, pm_opt_if, Bool.false_eq_true, Bool.not_false, Bool.not_true, if_false, if_true, true_and, and_true, true_or, or_true, not_true_eq_false, not_false_eq_true, q10, q00, q01, q11, pk_v, pk_i, pk_l, pk_r]
theorem act_no (hR : Rel I J) : Rel (pm_w (pm_w I 33 1 0) 82 53 0) J := by
  obtain ⟨r1, r2, r3, r4, r5, r6, r7, r8⟩ := id hR
  refine Rel_upd (L := [33, 82]) hR (by unfold REn at r1 ⊢; simp only [pw_eq, pw_ne, pu_eq, pu_ne, upd_app, Nat.reduceEqDiff, not_false_eq_true, if_false, if_true, r1, and_self]) (by unfold REk at r2 ⊢; simp only [pw_eq, pw_ne, pu_eq, pu_ne, upd_app, Nat.reduceEqDiff, not_false_eq_true, if_false, if_true, r2, and_self]) (by unfold REo at r3 ⊢; simp only [pw_eq, pw_ne, pu_eq, pu_ne, upd_app, Nat.reduceEqDiff, not_false_eq_true, if_false, if_true, r3, and_self]) (by unfold RBn pB at r4 ⊢; simp only [pw_eq, pw_ne, pu_eq, pu_ne, upd_app, Nat.reduceEqDiff, not_false_eq_true, if_false, if_true]; exact r4) (by unfold RBk pB at r5 ⊢; simp only [pw_eq, pw_ne, pu_eq, pu_ne, upd_app, Nat.reduceEqDiff, not_false_eq_true, if_false, if_true]; exact r5) (by unfold RX at r7 ⊢; simp only [pw_eq, pw_ne, pu_eq, pu_ne, upd_app, Nat.reduceEqDiff, not_false_eq_true, if_false, if_true]; exact ⟨r7.1, r7.2.1, r7.2.2.1, 0, by omega, rfl⟩) (by intro q hq; simp only [List.contains_cons, List.contains_nil, Bool.or_false, Bool.or_eq_false_iff, beq_eq_false_iff_ne, ne_eq] at hq; simp only [pw_ne, pu_ne, hq, not_false_eq_true]) (by decide) (by decide) (by simp only [pw_eq, pw_ne, pu_eq, pu_ne, upd_app, Nat.reduceEqDiff, not_false_eq_true, if_false, if_true])
theorem Pair_act {a b : Int32} (hg : g.length ≤ 600) (hR : Rel I J) : Pair X 28 182 [.int a, .int b, .int x] g I J := by
  by_cases hc : 0 ≤ a ∧ a ≤ 15
  · by_cases hb : 0 ≤ b ∧ b ≤ 2
    · obtain ⟨j, hj, rfl⟩ := in_of (m := 15) rfl hc
      obtain ⟨u, hu, rfl⟩ := in_of (m := 2) rfl hb
      have hj' : j < 16 := by omega
      obtain ⟨m, hm, em⟩ := hR.2.2.2.1.2.2.1 j hj'
      match m, hm, u, hu with
      | 0, _, 0, _ => exact Pair_act_0_0 hg hR hj' em
      | 0, _, 1, _ => exact Pair_act_0_1 hg hR hj' em
      | 0, _, 2, _ => exact Pair_act_0_2 hg hR hj' em
      | 1, _, 0, _ => exact Pair_act_1_0 hg hR hj' em
      | 1, _, 1, _ => exact Pair_act_1_1 hg hR hj' em
      | 1, _, 2, _ => exact Pair_act_1_2 hg hR hj' em
      | 2, _, 0, _ => exact Pair_act_2_0 hg hR hj' em
      | 2, _, 1, _ => exact Pair_act_2_1 hg hR hj' em
      | 2, _, 2, _ => exact Pair_act_2_2 hg hR hj' em
      | 3, _, 0, _ => exact Pair_act_3_0 hg hR hj' em
      | 3, _, 1, _ => exact Pair_act_3_1 hg hR hj' em
      | 3, _, 2, _ => exact Pair_act_3_2 hg hR hj' em
      | 4, _, 0, _ => exact Pair_act_4_0 hg hR hj' em
      | 4, _, 1, _ => exact Pair_act_4_1 hg hR hj' em
      | 4, _, 2, _ => exact Pair_act_4_2 hg hR hj' em
      | 5, _, 0, _ => exact Pair_act_5_0 hg hR hj' em
      | 5, _, 1, _ => exact Pair_act_5_1 hg hR hj' em
      | 5, _, 2, _ => exact Pair_act_5_2 hg hR hj' em
      | 6, _, 0, _ => exact Pair_act_6_0 hg hR hj' em
      | 6, _, 1, _ => exact Pair_act_6_1 hg hR hj' em
      | 6, _, 2, _ => exact Pair_act_6_2 hg hR hj' em
    · refine ⟨.int 0, g, pm_w I 33 1 0, J, pm_w (pm_w I 33 1 0) 82 53 0, J, act_no hR, Or.inl rfl, rfl, K50 fun d' => ?_, K50 fun d' => ?_⟩
      · have fg := fun (d : Nat) (P : pm_O → Prop) => K_A_forget (X := X) (d := d) (P := P) (g := g) (I := I) (J := J)
        show pm_V X (d' + 49) 28 0 [some (.ref 0), some (.int a), some (.int b), some (.int x)] [] (pm_S0 ++ g, I, J) _
        simp only [e_B_act_0, e_B_act_1, e_B_act_4, e_B_act_7, e_B_act_8, e_B_act_11, e_B_act_14, e_B_act_15, e_B_act_16, e_B_act_17, e_B_act_20, e_B_act_23, e_B_act_24, e_B_act_25, e_B_act_26, e_B_act_29, e_B_act_30, e_B_act_31, e_B_act_32, e_B_act_35, e_B_act_38, e_B_act_39, e_B_act_40, e_B_act_41, e_B_act_44, e_B_act_47, e_B_act_48, e_B_act_49, e_B_act_50, e_B_act_53, K_B_isCell, K_B_isWithin, eq_true hc, eq_false hb, sh_r_0_9, sh_o_33, fg, pm_opt_some, pm_opt_none, pm_opt_if, Bool.false_eq_true, Bool.not_false, Bool.not_true, if_false, if_true, true_and, and_true, true_or, or_true, not_true_eq_false, not_false_eq_true, q10, q00, q01, q11, pk_v, pk_i, pk_l, pk_r]
      · show pm_V X (d' + 49) 182 0 [some (.ref 82), some (.int a), some (.int b), some (.int x)] [] (pm_S0 ++ g, (pm_w I 33 1 0), J) _
        simp only [e_M_act_0, e_M_act_1, e_M_act_2, e_M_act_5, e_M_act_6, e_M_act_7, e_M_act_10, e_M_act_13, e_M_act_14, e_M_act_15, e_M_act_16, e_M_act_17, e_M_act_20, e_M_act_23, e_M_act_24, e_M_act_26, e_M_act_29, e_M_act_30, e_M_act_31, e_M_act_32, e_M_act_35, e_M_act_38, e_M_act_39, e_M_act_40, e_M_act_43, e_M_act_44, e_M_act_45, e_M_act_46, e_M_act_49, e_M_act_52, e_M_act_53, e_M_act_54, e_M_act_55, e_M_act_58, sh_o_82, K_M_isCell, K_M_in, eq_true hc, eq_false hb, pm_opt_some, pm_opt_none, pm_opt_if, Bool.false_eq_true, Bool.not_false, Bool.not_true, if_false, if_true, true_and, and_true, true_or, or_true, not_true_eq_false, not_false_eq_true, q10, q00, q01, q11, pk_v, pk_i, pk_l, pk_r]
  · refine ⟨.int 0, g, pm_w I 33 1 0, J, pm_w (pm_w I 33 1 0) 82 53 0, J, act_no hR, Or.inl rfl, rfl, K50 fun d' => ?_, K50 fun d' => ?_⟩
    · have fg := fun (d : Nat) (P : pm_O → Prop) => K_A_forget (X := X) (d := d) (P := P) (g := g) (I := I) (J := J)
      show pm_V X (d' + 49) 28 0 [some (.ref 0), some (.int a), some (.int b), some (.int x)] [] (pm_S0 ++ g, I, J) _
      simp only [e_B_act_0, e_B_act_1, e_B_act_4, e_B_act_7, e_B_act_8, e_B_act_11, e_B_act_14, e_B_act_15, e_B_act_16, e_B_act_17, e_B_act_20, e_B_act_23, e_B_act_24, e_B_act_25, e_B_act_26, e_B_act_29, e_B_act_30, e_B_act_31, e_B_act_32, e_B_act_35, e_B_act_38, e_B_act_39, e_B_act_40, e_B_act_41, e_B_act_44, e_B_act_47, e_B_act_48, e_B_act_49, e_B_act_50, e_B_act_53, K_B_isCell, K_B_isWithin, eq_false hc, sh_r_0_9, sh_o_33, fg, pm_opt_some, pm_opt_none, pm_opt_if, Bool.false_eq_true, Bool.not_false, Bool.not_true, if_false, if_true, true_and, and_true, true_or, or_true, not_true_eq_false, not_false_eq_true, q10, q00, q01, q11, pk_v, pk_i, pk_l, pk_r]
    · show pm_V X (d' + 49) 182 0 [some (.ref 82), some (.int a), some (.int b), some (.int x)] [] (pm_S0 ++ g, (pm_w I 33 1 0), J) _
      simp only [e_M_act_0, e_M_act_1, e_M_act_2, e_M_act_5, e_M_act_6, e_M_act_7, e_M_act_10, e_M_act_13, e_M_act_14, e_M_act_15, e_M_act_16, e_M_act_17, e_M_act_20, e_M_act_23, e_M_act_24, e_M_act_26, e_M_act_29, e_M_act_30, e_M_act_31, e_M_act_32, e_M_act_35, e_M_act_38, e_M_act_39, e_M_act_40, e_M_act_43, e_M_act_44, e_M_act_45, e_M_act_46, e_M_act_49, e_M_act_52, e_M_act_53, e_M_act_54, e_M_act_55, e_M_act_58, sh_o_82, K_M_isCell, K_M_in, eq_false hc, pm_opt_some, pm_opt_none, pm_opt_if, Bool.false_eq_true, Bool.not_false, Bool.not_true, if_false, if_true, true_and, and_true, true_or, or_true, not_true_eq_false, not_false_eq_true, q10, q00, q01, q11, pk_v, pk_i, pk_l, pk_r]
end P49
