/-! pairs of calls: lamp -/
def liB (c o : Nat) : Bool := decide (nI c = nI o) || nrB (nI c) (nI o)
def lmT (T U : Nat → T3) (c : Nat) : Nat → T3 := fun o => if liB c o = true then U o else T o
def lmS (T U : Nat → T3) (c : Nat) : Int32 := sumR (fun o => thT (lmT T U c o)) 0 16
def lmF (f : Nat → Int32) : Nat := fld (fun c best => if f best ≤ f c then best else c) 1 15 0
section P53
variable {X : pm_X} {d : Nat} {P Q : pm_O → Prop} {g : List pm_S} {S : List pm_S} {I I' I1 B : Nat → Nat → Int32} {J J' : Nat → Nat → Int64} {j w m : Nat} {c a b s n k l : Int32} {fi : Int32} {p : Nat → Int32} {T U : Nat → T3}
theorem lit_all : ∀ c, c < 16 → ∀ o, o < 16 → (((1 <<< (nI c &&& 31) ||| nearE (1 <<< (nI c &&& 31))) >>> (nI o &&& 31) &&& 1 = 1) ↔ liB c o = true) := by decide +kernel
theorem ltI_lit {c o : Nat} (h : B 82 27 = nI c) (hc : c < 16) : ltI B o = if liB c o = true then 3 else 0 := by
  have hn : ¬ nI c < 0 := nI_pos (by omega)
  unfold ltI liB
  rw [h, if_neg hn]
  by_cases q1 : nI c = nI o
  · simp [q1]
  · by_cases q2 : nrB (nI c) (nI o) = true
    · simp [q1, q2]
    · simp [q1, q2]
theorem fld_pt {f h : Nat → (Nat → T3) → (Nat → T3)} {o : Nat} (hf : ∀ i (T U : Nat → T3), T o = U o → f i T o = h i U o) : ∀ (n k : Nat) (T U : Nat → T3), T o = U o → fld f k n T o = fld h k n U o := by
  intro n
  induction n with
  | zero => intro k T U h0; exact h0
  | succ n ih => intro k T U h0; exact ih (k + 1) _ _ (hf k T U h0)
theorem hrM_lit {h0 m o : Nat} {heat : Int32} (h : ltI B o = heat) : hrM B w h0 m T o = hrT B w heat h0 m T o := by
  unfold hrM hrT
  refine fld_pt (fun i T U hTU => ?_) m 0 T T rfl
  unfold stM hsT stT
  try dsimp only
  rw [h, hTU]
theorem lmF_lt {f : Nat → Int32} : lmF f < 16 := by
  refine fld_inv (f := fun c best => if f best ≤ f c then best else c) (fun _ best => best < 16) 15 1 0 (fun i b h1 h2 h3 => ?_) (by decide)
  try dsimp only
  split
  · exact h3
  · omega
theorem K_B_lampAt {c : Nat} (hc : c < 16) : pm_cl X (d + 3) 55 [.ref 0, .int (nI c)] (pm_S0 ++ g, AA I T U, J) P = P (some (.int (lmS T U c)), (pm_S0 ++ g, AA I T U, J)) := by
  refine K_of (k := 2) (fun d' => ?_)
  have L := fun (Q : pm_O → Prop) => pm_lp (fun k (s : Int32) => pm_V X (d' + 2) 55 16 [some (.ref 0), some (.int (nI c)), some (.int (1 <<< (nI c &&& 31) ||| nearE (1 <<< (nI c &&& 31)))), some (.int s), some (.int (nI k))] [] (pm_S0 ++ g, AA I T U, J) Q) (fun k s => s + thT (lmT T U c k)) 16 (by
    intro k s hk
    have h1 : ((16 : Int32) ≤ nI k) = False := by
      rw [show (16 : Int32) = nI 16 from rfl, nI_le_l (by omega) (by omega)]
      exact eq_false (by omega)
    have hl := propext (lit_all c hc k hk)
    show pm_V X (d' + 2) 55 16 [some (.ref 0), some (.int (nI c)), some (.int (1 <<< (nI c &&& 31) ||| nearE (1 <<< (nI c &&& 31)))), some (.int s), some (.int (nI k))] [] (pm_S0 ++ g, AA I T U, J) Q = _
    rw [e_B_thickWithLampAt_16]
    simp only [e_B_thickWithLampAt_0, e_B_thickWithLampAt_1, e_B_thickWithLampAt_2, e_B_thickWithLampAt_3, e_B_thickWithLampAt_4, e_B_thickWithLampAt_5, e_B_thickWithLampAt_6, e_B_thickWithLampAt_9, e_B_thickWithLampAt_10, e_B_thickWithLampAt_11, e_B_thickWithLampAt_12, e_B_thickWithLampAt_13, e_B_thickWithLampAt_14, e_B_thickWithLampAt_18, e_B_thickWithLampAt_20, e_B_thickWithLampAt_23, e_B_thickWithLampAt_24, e_B_thickWithLampAt_25, e_B_thickWithLampAt_27, e_B_thickWithLampAt_28, e_B_thickWithLampAt_29, e_B_thickWithLampAt_30, e_B_thickWithLampAt_31, e_B_thickWithLampAt_34, e_B_thickWithLampAt_35, e_B_thickWithLampAt_38, e_B_thickWithLampAt_40, e_B_thickWithLampAt_43, e_B_thickWithLampAt_46, e_B_thickWithLampAt_47, e_B_thickWithLampAt_50, e_B_thickWithLampAt_52, e_B_thickWithLampAt_55, e_B_thickWithLampAt_56, e_B_thickWithLampAt_57, e_B_thickWithLampAt_60, e_B_thickWithLampAt_63, e_B_thickWithLampAt_64, h1, hl, sh_o_35, sh_o_39, sh_r_0_10, sh_r_0_11, K_AA1 hk, K_AA2 hk, nI_1, pm_opt_some, pm_opt_none, pm_opt_if, Bool.false_eq_true, Bool.not_false, Bool.not_true, if_false, if_true, true_and, and_true, true_or, or_true, not_true_eq_false, not_false_eq_true, q10, q00, q01, q11, pk_v, pk_i, pk_l, pk_r]
    unfold lmT
    by_cases q : liB c k = true
    · simp only [q, pm_opt_some, pm_opt_none, pm_opt_if, Bool.false_eq_true, Bool.not_false, Bool.not_true, if_false, if_true, true_and, and_true, true_or, or_true, not_true_eq_false, not_false_eq_true, q10, q00, q01, q11, pk_v, pk_i, pk_l, pk_r]
    · simp only [q, pm_opt_some, pm_opt_none, pm_opt_if, Bool.false_eq_true, Bool.not_false, Bool.not_true, if_false, if_true, true_and, and_true, true_or, or_true, not_true_eq_false, not_false_eq_true, q10, q00, q01, q11, pk_v, pk_i, pk_l, pk_r]) 16 0 0 (by omega)
  rw [sumR_0, nI_0] at L
  have h16 : ((16 : Int32) ≤ nI 16) = True := by decide
  show pm_V X (d' + 2) 55 0 [some (.ref 0), some (.int (nI c)), none, none, none] [] (pm_S0 ++ g, AA I T U, J) _
  simp only [e_B_thickWithLampAt_0, e_B_thickWithLampAt_1, e_B_thickWithLampAt_2, e_B_thickWithLampAt_3, e_B_thickWithLampAt_4, e_B_thickWithLampAt_5, e_B_thickWithLampAt_6, e_B_thickWithLampAt_9, e_B_thickWithLampAt_10, e_B_thickWithLampAt_11, e_B_thickWithLampAt_12, e_B_thickWithLampAt_13, e_B_thickWithLampAt_14, e_B_thickWithLampAt_18, e_B_thickWithLampAt_20, e_B_thickWithLampAt_23, e_B_thickWithLampAt_24, e_B_thickWithLampAt_25, e_B_thickWithLampAt_27, e_B_thickWithLampAt_28, e_B_thickWithLampAt_29, e_B_thickWithLampAt_30, e_B_thickWithLampAt_31, e_B_thickWithLampAt_34, e_B_thickWithLampAt_35, e_B_thickWithLampAt_38, e_B_thickWithLampAt_40, e_B_thickWithLampAt_43, e_B_thickWithLampAt_46, e_B_thickWithLampAt_47, e_B_thickWithLampAt_50, e_B_thickWithLampAt_52, e_B_thickWithLampAt_55, e_B_thickWithLampAt_56, e_B_thickWithLampAt_57, e_B_thickWithLampAt_60, e_B_thickWithLampAt_63, e_B_thickWithLampAt_64, K_B_nearOf, pm_opt_some, pm_opt_none, pm_opt_if, Bool.false_eq_true, Bool.not_false, Bool.not_true, if_false, if_true, true_and, and_true, true_or, or_true, not_true_eq_false, not_false_eq_true, q10, q00, q01, q11, pk_v, pk_i, pk_l, pk_r]
  rw [L, e_B_thickWithLampAt_16]
  simp only [e_B_thickWithLampAt_0, e_B_thickWithLampAt_1, e_B_thickWithLampAt_2, e_B_thickWithLampAt_3, e_B_thickWithLampAt_4, e_B_thickWithLampAt_5, e_B_thickWithLampAt_6, e_B_thickWithLampAt_9, e_B_thickWithLampAt_10, e_B_thickWithLampAt_11, e_B_thickWithLampAt_12, e_B_thickWithLampAt_13, e_B_thickWithLampAt_14, e_B_thickWithLampAt_18, e_B_thickWithLampAt_20, e_B_thickWithLampAt_23, e_B_thickWithLampAt_24, e_B_thickWithLampAt_25, e_B_thickWithLampAt_27, e_B_thickWithLampAt_28, e_B_thickWithLampAt_29, e_B_thickWithLampAt_30, e_B_thickWithLampAt_31, e_B_thickWithLampAt_34, e_B_thickWithLampAt_35, e_B_thickWithLampAt_38, e_B_thickWithLampAt_40, e_B_thickWithLampAt_43, e_B_thickWithLampAt_46, e_B_thickWithLampAt_47, e_B_thickWithLampAt_50, e_B_thickWithLampAt_52, e_B_thickWithLampAt_55, e_B_thickWithLampAt_56, e_B_thickWithLampAt_57, e_B_thickWithLampAt_60, e_B_thickWithLampAt_63, e_B_thickWithLampAt_64, h16, pm_opt_some, pm_opt_none, pm_opt_if, Bool.false_eq_true, Bool.not_false, Bool.not_true, if_false, if_true, true_and, and_true, true_or, or_true, not_true_eq_false, not_false_eq_true, q10, q00, q01, q11, pk_v, pk_i, pk_l, pk_r]
  rfl
theorem MS_w82 {k : Nat} {v : Int32} (hk : ¬ k = 26) : pm_w (MS B T n p) 82 k v = MS (pm_w B 82 k v) T n p := by
  unfold MS
  funext q i
  rw [pm_w_app]
  unfold upC
  by_cases h1 : q = 82
  · subst h1
    by_cases h2 : i = k
    · subst h2
      have : ¬ 82 = 98 := by decide
      simp [pu_ne, this, pw_eq, upd_app, hk]
    · have : ¬ 82 = 98 := by decide
      simp [h2, pu_ne, this, pw_eq, upd_app]
  · have e : pm_w B 82 k v q = B q := pw_ne h1
    simp only [h1, false_and, if_false]
    by_cases h3 : q = 98
    · subst h3
      simp [pu_eq]
    · simp only [pu_ne h3, pw_ne h1]
/-- the reference's lamp at a CELL -/
theorem M_lamp_step {k : Nat} (hs : sfr I B) (hR : Rel B J) (hk : k < 16) (hm : m ≤ 99) : ∃ B', sfr B B' ∧ ∀ (best least : Int32) (l5 l6 : Option Value) (d : Nat) (Q : pm_O → Prop), pm_V X (d + 12) 159 21 [some (.ref 82), some (.int (nI m)), some (.int best), some (.int least), some (.int (nI k)), l5, l6] [] (pm_S0 ++ g, B, J) Q = pm_V X (d + 12) 159 73 [some (.ref 82), some (.int (nI m)), some (.int best), some (.int least), some (.int (nI k)), some (.int (lmS (ahT I 0 m) (ahT I 3 m) k)), some (.int (nI 16))] [] (pm_S0 ++ g, B', J) Q := by
  have hs1 : sfr B (pm_w (nL B) 82 27 (nI k)) := sfr_tr nL_sfr (sfr_w82 (by decide))
  have hR1 := Rel_s hs1 hR
  have e27 : pm_w (nL B) 82 27 (nI k) 82 27 = nI k := by rw [pw_eq, upd_app, if_pos rfl]
  have as := fun (d : Nat) (P : pm_O → Prop) => M_asIs (X := X) (d := d) (P := P) (g := g) hR hs
  have hs2 : sfr I (pm_w (nL B) 82 27 (nI k)) := sfr_tr hs hs1
  have ew : ∀ (n : Int32) (p : Nat → Int32), pm_w (MS (nL B) (rowT I 3 4 5) n p) 82 27 (nI k) = MS (pm_w (nL B) 82 27 (nI k)) (rowT I 3 4 5) n p := fun n p => MS_w82 (by decide)
  generalize pm_w (nL B) 82 27 (nI k) = C at hs1 hR1 e27 hs2 ew
  obtain ⟨p', hp⟩ := K_M_goHours (X := X) (g := g) (J := J) (p := B 98) (h0 := hN I) (m := m) (T := rowT I 3 4 5) (Rel_WXm hR1) (Rel_MC hR1) hR1.1.2.2.1 (by rw [← sfr_row hs2]; exact Rel_Tok hR1) (by omega)
  have eT : hrM C (hwI C) (hN I) m (rowT I 3 4 5) = lmT (ahT I 0 m) (ahT I 3 m) k := by
    funext o
    rw [hrM_lit (ltI_lit e27 hk), sfr_hw hs2, sfr_hr hs2 hwI_is]
    unfold lmT
    by_cases q : liB k o = true
    · simp only [q, if_true]
      rfl
    · simp only [q, if_false]
      rfl
  rw [eT] at hp
  refine ⟨MS C (lmT (ahT I 0 m) (ahT I 3 m) k) (nI (hN I + m)) p', sfr_tr hs1 MS_sfr, fun best least l5 l6 d Q => ?_⟩
  have h1 : ((16 : Int32) ≤ nI k) = False := by
    rw [show (16 : Int32) = nI 16 from rfl, nI_le_l (by omega) (by omega)]
    exact eq_false (by omega)
  generalize hW : lmT (ahT I 0 m) (ahT I 3 m) k = W at hp ⊢
  have hS : lmS (ahT I 0 m) (ahT I 3 m) k = sumR (fun o => thT (W o)) 0 16 := by
    unfold lmS
    rw [hW]
  have L := pm_lp (fun o (s : Int32) => pm_V X (d + 12) 159 49 [some (.ref 82), some (.int (nI m)), some (.int best), some (.int least), some (.int (nI k)), some (.int s), some (.int (nI o))] [] (pm_S0 ++ g, MS C W (nI (hN I + m)) p', J) Q) (fun o s => s + thT (W o)) 16 (by
    intro o s ho
    have h2 : ((16 : Int32) ≤ nI o) = False := by
      rw [show (16 : Int32) = nI 16 from rfl, nI_le_l (by omega) (by omega)]
      exact eq_false (by omega)
    show pm_V X (d + 12) 159 49 [some (.ref 82), some (.int (nI m)), some (.int best), some (.int least), some (.int (nI k)), some (.int s), some (.int (nI o))] [] (pm_S0 ++ g, MS C W (nI (hN I + m)) p', J) Q = _
    rw [e_M_lamp_49]
    simp only [e_M_lamp_0, e_M_lamp_1, e_M_lamp_2, e_M_lamp_3, e_M_lamp_5, e_M_lamp_8, e_M_lamp_11, e_M_lamp_13, e_M_lamp_14, e_M_lamp_15, e_M_lamp_16, e_M_lamp_17, e_M_lamp_18, e_M_lamp_19, e_M_lamp_23, e_M_lamp_25, e_M_lamp_28, e_M_lamp_29, e_M_lamp_32, e_M_lamp_33, e_M_lamp_35, e_M_lamp_38, e_M_lamp_39, e_M_lamp_40, e_M_lamp_43, e_M_lamp_44, e_M_lamp_46, e_M_lamp_47, e_M_lamp_51, e_M_lamp_53, e_M_lamp_56, e_M_lamp_58, e_M_lamp_59, e_M_lamp_61, e_M_lamp_64, e_M_lamp_65, e_M_lamp_67, e_M_lamp_70, e_M_lamp_74, e_M_lamp_77, e_M_lamp_79, e_M_lamp_80, e_M_lamp_83, e_M_lamp_86, e_M_lamp_88, e_M_lamp_89, e_M_lamp_91, e_M_lamp_92, e_M_lamp_95, e_M_lamp_98, e_M_lamp_99, h2, sh_o_82, K_M_thickT ho, nI_1, pm_opt_some, pm_opt_none, pm_opt_if, Bool.false_eq_true, Bool.not_false, Bool.not_true, if_false, if_true, true_and, and_true, true_or, or_true, not_true_eq_false, not_false_eq_true, q10, q00, q01, q11, pk_v, pk_i, pk_l, pk_r]) 16 0 0 (by omega)
  rw [sumR_0, nI_0] at L
  have h16 : ((16 : Int32) ≤ nI 16) = True := by decide
  rw [e_M_lamp_21]
  simp only [e_M_lamp_0, e_M_lamp_1, e_M_lamp_2, e_M_lamp_3, e_M_lamp_5, e_M_lamp_8, e_M_lamp_11, e_M_lamp_13, e_M_lamp_14, e_M_lamp_15, e_M_lamp_16, e_M_lamp_17, e_M_lamp_18, e_M_lamp_19, e_M_lamp_23, e_M_lamp_25, e_M_lamp_28, e_M_lamp_29, e_M_lamp_32, e_M_lamp_33, e_M_lamp_35, e_M_lamp_38, e_M_lamp_39, e_M_lamp_40, e_M_lamp_43, e_M_lamp_44, e_M_lamp_46, e_M_lamp_47, e_M_lamp_51, e_M_lamp_53, e_M_lamp_56, e_M_lamp_58, e_M_lamp_59, e_M_lamp_61, e_M_lamp_64, e_M_lamp_65, e_M_lamp_67, e_M_lamp_70, e_M_lamp_74, e_M_lamp_77, e_M_lamp_79, e_M_lamp_80, e_M_lamp_83, e_M_lamp_86, e_M_lamp_88, e_M_lamp_89, e_M_lamp_91, e_M_lamp_92, e_M_lamp_95, e_M_lamp_98, e_M_lamp_99, h1, sh_o_82, as, ew, hp, pm_opt_some, pm_opt_none, pm_opt_if, Bool.false_eq_true, Bool.not_false, Bool.not_true, if_false, if_true, true_and, and_true, true_or, or_true, not_true_eq_false, not_false_eq_true, q10, q00, q01, q11, pk_v, pk_i, pk_l, pk_r]
  rw [L, e_M_lamp_49, hS]
  simp only [e_M_lamp_0, e_M_lamp_1, e_M_lamp_2, e_M_lamp_3, e_M_lamp_5, e_M_lamp_8, e_M_lamp_11, e_M_lamp_13, e_M_lamp_14, e_M_lamp_15, e_M_lamp_16, e_M_lamp_17, e_M_lamp_18, e_M_lamp_19, e_M_lamp_23, e_M_lamp_25, e_M_lamp_28, e_M_lamp_29, e_M_lamp_32, e_M_lamp_33, e_M_lamp_35, e_M_lamp_38, e_M_lamp_39, e_M_lamp_40, e_M_lamp_43, e_M_lamp_44, e_M_lamp_46, e_M_lamp_47, e_M_lamp_51, e_M_lamp_53, e_M_lamp_56, e_M_lamp_58, e_M_lamp_59, e_M_lamp_61, e_M_lamp_64, e_M_lamp_65, e_M_lamp_67, e_M_lamp_70, e_M_lamp_74, e_M_lamp_77, e_M_lamp_79, e_M_lamp_80, e_M_lamp_83, e_M_lamp_86, e_M_lamp_88, e_M_lamp_89, e_M_lamp_91, e_M_lamp_92, e_M_lamp_95, e_M_lamp_98, e_M_lamp_99, h16, pm_opt_some, pm_opt_none, pm_opt_if, Bool.false_eq_true, Bool.not_false, Bool.not_true, if_false, if_true, true_and, and_true, true_or, or_true, not_true_eq_false, not_false_eq_true, q10, q00, q01, q11, pk_v, pk_i, pk_l, pk_r]
theorem M_lamp_loop (hm : m ≤ 99) : ∀ (n k x : Nat) (B : Nat → Nat → Int32) (l5 l6 : Option Value), k + n = 16 → x < 16 → sfr I B → Rel B J → ∃ B', sfr B B' ∧ ∀ (d : Nat) (Q : pm_O → Prop), pm_V X (d + 12) 159 21 [some (.ref 82), some (.int (nI m)), some (.int (nI x)), some (.int (lmS (ahT I 0 m) (ahT I 3 m) x)), some (.int (nI k)), l5, l6] [] (pm_S0 ++ g, B, J) Q = Q (some (.int (nI (fld (fun c best => if lmS (ahT I 0 m) (ahT I 3 m) best ≤ lmS (ahT I 0 m) (ahT I 3 m) c then best else c) k n x))), (pm_S0 ++ g, B', J)) := by
  intro n
  induction n with
  | zero =>
    intro k x B l5 l6 hk hx hs hR
    obtain rfl : k = 16 := by omega
    have h16 : ((16 : Int32) ≤ nI 16) = True := by decide
    refine ⟨B, sfr_rf, fun d Q => ?_⟩
    rw [e_M_lamp_21]
    simp only [e_M_lamp_0, e_M_lamp_1, e_M_lamp_2, e_M_lamp_3, e_M_lamp_5, e_M_lamp_8, e_M_lamp_11, e_M_lamp_13, e_M_lamp_14, e_M_lamp_15, e_M_lamp_16, e_M_lamp_17, e_M_lamp_18, e_M_lamp_19, e_M_lamp_23, e_M_lamp_25, e_M_lamp_28, e_M_lamp_29, e_M_lamp_32, e_M_lamp_33, e_M_lamp_35, e_M_lamp_38, e_M_lamp_39, e_M_lamp_40, e_M_lamp_43, e_M_lamp_44, e_M_lamp_46, e_M_lamp_47, e_M_lamp_49, e_M_lamp_51, e_M_lamp_53, e_M_lamp_56, e_M_lamp_58, e_M_lamp_59, e_M_lamp_61, e_M_lamp_64, e_M_lamp_65, e_M_lamp_67, e_M_lamp_70, e_M_lamp_73, e_M_lamp_74, e_M_lamp_77, e_M_lamp_79, e_M_lamp_80, e_M_lamp_83, e_M_lamp_86, e_M_lamp_88, e_M_lamp_89, e_M_lamp_91, e_M_lamp_92, e_M_lamp_95, e_M_lamp_98, e_M_lamp_99, h16, pm_opt_some, pm_opt_none, pm_opt_if, Bool.false_eq_true, Bool.not_false, Bool.not_true, if_false, if_true, true_and, and_true, true_or, or_true, not_true_eq_false, not_false_eq_true, q10, q00, q01, q11, pk_v, pk_i, pk_l, pk_r]
    rfl
  | succ n ih =>
    intro k x B l5 l6 hk hx hs hR
    obtain ⟨B1, a1, h1⟩ := M_lamp_step (X := X) (g := g) hs hR (show k < 16 by omega) hm
    have hy : (if lmS (ahT I 0 m) (ahT I 3 m) x ≤ lmS (ahT I 0 m) (ahT I 3 m) k then x else k) < 16 := by
      split
      · exact hx
      · omega
    obtain ⟨B2, a2, h2⟩ := ih (k + 1) _ B1 (some (.int (lmS (ahT I 0 m) (ahT I 3 m) k))) (some (.int (nI 16))) (by omega) hy (sfr_tr hs a1) (Rel_s a1 hR)
    refine ⟨B2, sfr_tr a1 a2, fun d Q => ?_⟩
    have hx0 : (nI x < 0) = False := eq_false (nI_pos (by omega))
    rw [h1, fld, ← h2 d Q]
    generalize lmS (ahT I 0 m) (ahT I 3 m) = f
    rw [e_M_lamp_73]
    simp only [e_M_lamp_0, e_M_lamp_1, e_M_lamp_2, e_M_lamp_3, e_M_lamp_5, e_M_lamp_8, e_M_lamp_11, e_M_lamp_13, e_M_lamp_14, e_M_lamp_15, e_M_lamp_16, e_M_lamp_17, e_M_lamp_18, e_M_lamp_19, e_M_lamp_23, e_M_lamp_25, e_M_lamp_28, e_M_lamp_29, e_M_lamp_32, e_M_lamp_33, e_M_lamp_35, e_M_lamp_38, e_M_lamp_39, e_M_lamp_40, e_M_lamp_43, e_M_lamp_44, e_M_lamp_46, e_M_lamp_47, e_M_lamp_51, e_M_lamp_53, e_M_lamp_56, e_M_lamp_58, e_M_lamp_59, e_M_lamp_61, e_M_lamp_64, e_M_lamp_65, e_M_lamp_67, e_M_lamp_70, e_M_lamp_74, e_M_lamp_77, e_M_lamp_79, e_M_lamp_80, e_M_lamp_83, e_M_lamp_86, e_M_lamp_88, e_M_lamp_89, e_M_lamp_91, e_M_lamp_92, e_M_lamp_95, e_M_lamp_98, e_M_lamp_99, hx0, nI_1, pm_opt_some, pm_opt_none, pm_opt_if, Bool.false_eq_true, Bool.not_false, Bool.not_true, if_false, if_true, true_and, and_true, true_or, or_true, not_true_eq_false, not_false_eq_true, q10, q00, q01, q11, pk_v, pk_i, pk_l, pk_r]
    by_cases q : f k < f x
    · have q' : ¬ f x ≤ f k := Int32.not_le.mpr q
      simp only [q, q', pm_opt_some, pm_opt_none, pm_opt_if, Bool.false_eq_true, Bool.not_false, Bool.not_true, if_false, if_true, true_and, and_true, true_or, or_true, not_true_eq_false, not_false_eq_true, q10, q00, q01, q11, pk_v, pk_i, pk_l, pk_r]
    · have q' : f x ≤ f k := Int32.not_lt.mp q
      simp only [q, q', pm_opt_some, pm_opt_none, pm_opt_if, Bool.false_eq_true, Bool.not_false, Bool.not_true, if_false, if_true, true_and, and_true, true_or, or_true, not_true_eq_false, not_false_eq_true, q10, q00, q01, q11, pk_v, pk_i, pk_l, pk_r]
theorem Pair_lamp (hR : Rel I J) : Pair X 16 159 [.int a] g I J := by
  by_cases ha : 1 ≤ a ∧ a ≤ 99
  · have h0 : 0 ≤ a ∧ a ≤ 99 := by
      refine ⟨?_, ha.2⟩
      have := ha.1
      rw [i_le, k1] at this
      rw [i_le, k0]
      omega
    obtain ⟨m, hm, rfl⟩ := in_of (m := 99) rfl h0
    have h16 : ((16 : Int32) ≤ nI 16) = True := by decide
    refine Pair_q (v := .int (nI (lmF (lmS (ahT I 0 m) (ahT I 3 m))))) hR ?_ (fun I1 h1 hR1 => ?_)
    · refine ⟨AA I (ahT I 0 m) (ahT I 3 m), AA_sfr, K50 fun d' => ?_⟩
      have kh1 := fun (d : Nat) (P : pm_O → Prop) (U : Nat → T3) => K_hr1 (X := X) (d := d) (P := P) (g := g) (T := rowT I 3 4 5) (U := U) (n := m) (heat := 0) hR (by omega)
      rw [show hrT I (hwI I) 0 (hN I) m (rowT I 3 4 5) = ahT I 0 m from rfl] at kh1
      have kh2 := fun (d : Nat) (P : pm_O → Prop) (T : Nat → T3) => K_hr2 (X := X) (d := d) (P := P) (g := g) (T := T) (U := rowT I 3 4 5) (n := m) (heat := 3) hR (by omega)
      rw [show hrT I (hwI I) 3 (hN I) m (rowT I 3 4 5) = ahT I 3 m from rfl] at kh2
      generalize ahT I 3 m = U at kh2 ⊢
      generalize ahT I 0 m = T at kh1 ⊢
      have a0 := fun (d : Nat) (P : pm_O → Prop) => K_B_lampAt (X := X) (d := d) (P := P) (g := g) (I := I) (J := J) (T := T) (U := U) (c := 0) (by decide)
      simp only [nI_0] at a0
      have L := pm_lpR (fun k (x : Nat × Option Value) => pm_V X (d' + 49) 16 72 [some (.ref 0), some (.int (nI m)), some (.int (nI x.1)), some (.int (lmS T U x.1)), some (.int (nI k)), x.2] [] (pm_S0 ++ g, AA I T U, J) (fun q => q = (some (.int (nI (lmF (lmS T U)))), (pm_S0 ++ g, AA I T U, J)))) (fun k x => 1 ≤ k ∧ x.1 = fld (fun c best => if lmS T U best ≤ lmS T U c then best else c) 1 (k - 1) 0) 16 (by
        intro k x hk ⟨hk1, ex⟩
        have h1 : ((16 : Int32) ≤ nI k) = False := by
          rw [show (16 : Int32) = nI 16 from rfl, nI_le_l (by omega) (by omega)]
          exact eq_false (by omega)
        have ka := fun (d : Nat) (P : pm_O → Prop) => K_B_lampAt (X := X) (d := d) (P := P) (g := g) (I := I) (J := J) (T := T) (U := U) (c := k) hk
        generalize lmS T U = f at ka ex ⊢
        refine ⟨(if f x.1 ≤ f k then x.1 else k, some (.int (f k))), ⟨by omega, ?_⟩, ?_⟩
        · dsimp only
          rw [show k + 1 - 1 = (k - 1) + 1 by omega, fld_s, ← ex, show 1 + (k - 1) = k by omega]
        · show pm_V X (d' + 49) 16 72 [some (.ref 0), some (.int (nI m)), some (.int (nI x.1)), some (.int (f x.1)), some (.int (nI k)), x.2] [] (pm_S0 ++ g, AA I T U, J) _ = _
          rw [e_B_lamp_72]
          simp only [e_B_lamp_0, e_B_lamp_1, e_B_lamp_2, e_B_lamp_4, e_B_lamp_7, e_B_lamp_10, e_B_lamp_12, e_B_lamp_13, e_B_lamp_14, e_B_lamp_17, e_B_lamp_18, e_B_lamp_21, e_B_lamp_24, e_B_lamp_27, e_B_lamp_28, e_B_lamp_31, e_B_lamp_32, e_B_lamp_35, e_B_lamp_38, e_B_lamp_41, e_B_lamp_42, e_B_lamp_43, e_B_lamp_46, e_B_lamp_47, e_B_lamp_48, e_B_lamp_51, e_B_lamp_52, e_B_lamp_53, e_B_lamp_56, e_B_lamp_57, e_B_lamp_58, e_B_lamp_61, e_B_lamp_62, e_B_lamp_63, e_B_lamp_64, e_B_lamp_65, e_B_lamp_68, e_B_lamp_69, e_B_lamp_70, e_B_lamp_74, e_B_lamp_76, e_B_lamp_79, e_B_lamp_80, e_B_lamp_82, e_B_lamp_85, e_B_lamp_87, e_B_lamp_89, e_B_lamp_90, e_B_lamp_93, e_B_lamp_95, e_B_lamp_96, e_B_lamp_98, e_B_lamp_99, e_B_lamp_102, e_B_lamp_105, e_B_lamp_106, h1, sh_o_0, ka, nI_1, pm_opt_some, pm_opt_none, pm_opt_if, Bool.false_eq_true, Bool.not_false, Bool.not_true, if_false, if_true, true_and, and_true, true_or, or_true, not_true_eq_false, not_false_eq_true, q10, q00, q01, q11, pk_v, pk_i, pk_l, pk_r]
          by_cases q : f x.1 ≤ f k
          · simp only [q, pm_opt_some, pm_opt_none, pm_opt_if, Bool.false_eq_true, Bool.not_false, Bool.not_true, if_false, if_true, true_and, and_true, true_or, or_true, not_true_eq_false, not_false_eq_true, q10, q00, q01, q11, pk_v, pk_i, pk_l, pk_r]
          · simp only [q, pm_opt_some, pm_opt_none, pm_opt_if, Bool.false_eq_true, Bool.not_false, Bool.not_true, if_false, if_true, true_and, and_true, true_or, or_true, not_true_eq_false, not_false_eq_true, q10, q00, q01, q11, pk_v, pk_i, pk_l, pk_r]) 15 1 (0, none) (by omega) ⟨by omega, rfl⟩
      obtain ⟨⟨x1, l5⟩, ⟨_, ex⟩, hL⟩ := L
      simp only at ex hL
      rw [show (16 - 1 : Nat) = 15 from rfl] at ex
      rw [show lmF (lmS T U) = x1 from ex.symm] at hL ⊢
      show pm_V X (d' + 49) 16 0 [some (.ref 0), some (.int (nI m)), none, none, none, none] [] (pm_S0 ++ g, I, J) _
      simp only [e_B_lamp_0, e_B_lamp_1, e_B_lamp_2, e_B_lamp_4, e_B_lamp_7, e_B_lamp_10, e_B_lamp_12, e_B_lamp_13, e_B_lamp_14, e_B_lamp_17, e_B_lamp_18, e_B_lamp_21, e_B_lamp_24, e_B_lamp_27, e_B_lamp_28, e_B_lamp_31, e_B_lamp_32, e_B_lamp_35, e_B_lamp_38, e_B_lamp_41, e_B_lamp_42, e_B_lamp_43, e_B_lamp_46, e_B_lamp_47, e_B_lamp_48, e_B_lamp_51, e_B_lamp_52, e_B_lamp_53, e_B_lamp_56, e_B_lamp_57, e_B_lamp_58, e_B_lamp_61, e_B_lamp_62, e_B_lamp_63, e_B_lamp_64, e_B_lamp_65, e_B_lamp_68, e_B_lamp_69, e_B_lamp_70, e_B_lamp_74, e_B_lamp_76, e_B_lamp_79, e_B_lamp_80, e_B_lamp_82, e_B_lamp_85, e_B_lamp_87, e_B_lamp_89, e_B_lamp_90, e_B_lamp_93, e_B_lamp_95, e_B_lamp_96, e_B_lamp_98, e_B_lamp_99, e_B_lamp_102, e_B_lamp_105, e_B_lamp_106, K_B_isWithin, eq_true ha, sh_o_0, sh_o_2, sh_o_35, sh_o_39, sh_r_0_0, sh_r_0_10, sh_r_0_11, sh_r_1_0, K_cpA, K_cp2, kh1, kh2, a0, pm_opt_some, pm_opt_none, pm_opt_if, Bool.false_eq_true, Bool.not_false, Bool.not_true, if_false, if_true, true_and, and_true, true_or, or_true, not_true_eq_false, not_false_eq_true, q10, q00, q01, q11, pk_v, pk_i, pk_l, pk_r]
      refine Eq.mpr hL ?_
      rw [e_B_lamp_72]
      simp only [e_B_lamp_0, e_B_lamp_1, e_B_lamp_2, e_B_lamp_4, e_B_lamp_7, e_B_lamp_10, e_B_lamp_12, e_B_lamp_13, e_B_lamp_14, e_B_lamp_17, e_B_lamp_18, e_B_lamp_21, e_B_lamp_24, e_B_lamp_27, e_B_lamp_28, e_B_lamp_31, e_B_lamp_32, e_B_lamp_35, e_B_lamp_38, e_B_lamp_41, e_B_lamp_42, e_B_lamp_43, e_B_lamp_46, e_B_lamp_47, e_B_lamp_48, e_B_lamp_51, e_B_lamp_52, e_B_lamp_53, e_B_lamp_56, e_B_lamp_57, e_B_lamp_58, e_B_lamp_61, e_B_lamp_62, e_B_lamp_63, e_B_lamp_64, e_B_lamp_65, e_B_lamp_68, e_B_lamp_69, e_B_lamp_70, e_B_lamp_74, e_B_lamp_76, e_B_lamp_79, e_B_lamp_80, e_B_lamp_82, e_B_lamp_85, e_B_lamp_87, e_B_lamp_89, e_B_lamp_90, e_B_lamp_93, e_B_lamp_95, e_B_lamp_96, e_B_lamp_98, e_B_lamp_99, e_B_lamp_102, e_B_lamp_105, e_B_lamp_106, h16, pm_opt_some, pm_opt_none, pm_opt_if, Bool.false_eq_true, Bool.not_false, Bool.not_true, if_false, if_true, true_and, and_true, true_or, or_true, not_true_eq_false, not_false_eq_true, q10, q00, q01, q11, pk_v, pk_i, pk_l, pk_r]
    · obtain ⟨B1, b1, t1⟩ := M_lamp_step (X := X) (g := g) (k := 0) h1 hR1 (by decide) hm
      obtain ⟨B2, b2, t2⟩ := M_lamp_loop (X := X) (g := g) (I := I) (J := J) (m := m) hm 15 1 0 B1 (some (.int (lmS (ahT I 0 m) (ahT I 3 m) 0))) (some (.int (nI 16))) rfl (by decide) (sfr_tr h1 b1) (Rel_s b1 hR1)
      refine ⟨B2, sfr_tr b1 b2, K50 fun d' => ?_⟩
      have t1' := t1 (-1) 0 none none (d' + 37) (fun q => q = (some (.int (nI (lmF (lmS (ahT I 0 m) (ahT I 3 m))))), (pm_S0 ++ g, B2, J)))
      have t2' := t2 (d' + 37) (fun q => q = (some (.int (nI (lmF (lmS (ahT I 0 m) (ahT I 3 m))))), (pm_S0 ++ g, B2, J)))
      rw [nI_0] at t1' t2'
      show pm_V X (d' + 49) 159 0 [some (.ref 82), some (.int (nI m)), none, none, none, none, none] [] (pm_S0 ++ g, I1, J) _
      simp only [e_M_lamp_0, e_M_lamp_1, e_M_lamp_2, e_M_lamp_3, e_M_lamp_5, e_M_lamp_8, e_M_lamp_11, e_M_lamp_13, e_M_lamp_14, e_M_lamp_15, e_M_lamp_16, e_M_lamp_17, e_M_lamp_18, e_M_lamp_19, e_M_lamp_23, e_M_lamp_25, e_M_lamp_28, e_M_lamp_29, e_M_lamp_32, e_M_lamp_33, e_M_lamp_35, e_M_lamp_38, e_M_lamp_39, e_M_lamp_40, e_M_lamp_43, e_M_lamp_44, e_M_lamp_46, e_M_lamp_47, e_M_lamp_51, e_M_lamp_53, e_M_lamp_56, e_M_lamp_58, e_M_lamp_59, e_M_lamp_61, e_M_lamp_64, e_M_lamp_65, e_M_lamp_67, e_M_lamp_70, e_M_lamp_74, e_M_lamp_77, e_M_lamp_79, e_M_lamp_80, e_M_lamp_83, e_M_lamp_86, e_M_lamp_88, e_M_lamp_89, e_M_lamp_91, e_M_lamp_92, e_M_lamp_95, e_M_lamp_98, e_M_lamp_99, K_M_in, eq_true ha, sh_o_82, pm_opt_some, pm_opt_none, pm_opt_if, Bool.false_eq_true, Bool.not_false, Bool.not_true, if_false, if_true, true_and, and_true, true_or, or_true, not_true_eq_false, not_false_eq_true, q10, q00, q01, q11, pk_v, pk_i, pk_l, pk_r]
      refine Eq.mpr t1' ?_
      rw [e_M_lamp_73]
      have hm1 : ((-1 : Int32) < 0) = True := by decide
      simp only [e_M_lamp_0, e_M_lamp_1, e_M_lamp_2, e_M_lamp_3, e_M_lamp_5, e_M_lamp_8, e_M_lamp_11, e_M_lamp_13, e_M_lamp_14, e_M_lamp_15, e_M_lamp_16, e_M_lamp_17, e_M_lamp_18, e_M_lamp_19, e_M_lamp_23, e_M_lamp_25, e_M_lamp_28, e_M_lamp_29, e_M_lamp_32, e_M_lamp_33, e_M_lamp_35, e_M_lamp_38, e_M_lamp_39, e_M_lamp_40, e_M_lamp_43, e_M_lamp_44, e_M_lamp_46, e_M_lamp_47, e_M_lamp_51, e_M_lamp_53, e_M_lamp_56, e_M_lamp_58, e_M_lamp_59, e_M_lamp_61, e_M_lamp_64, e_M_lamp_65, e_M_lamp_67, e_M_lamp_70, e_M_lamp_74, e_M_lamp_77, e_M_lamp_79, e_M_lamp_80, e_M_lamp_83, e_M_lamp_86, e_M_lamp_88, e_M_lamp_89, e_M_lamp_91, e_M_lamp_92, e_M_lamp_95, e_M_lamp_98, e_M_lamp_99, hm1, pm_opt_some, pm_opt_none, pm_opt_if, Bool.false_eq_true, Bool.not_false, Bool.not_true, if_false, if_true, true_and, and_true, true_or, or_true, not_true_eq_false, not_false_eq_true, q10, q00, q01, q11, pk_v, pk_i, pk_l, pk_r]
      refine Eq.mpr t2' ?_
      rfl
  · exact Pair_q (v := .int (-2)) hR ⟨I, sfr_rf, K50 fun d' => by { show pm_V X (d' + 49) 16 0 [some (.ref 0), some (.int a), none, none, none, none] [] (pm_S0 ++ g, I, J) _; simp only [e_B_lamp_0, e_B_lamp_1, e_B_lamp_2, e_B_lamp_4, e_B_lamp_7, e_B_lamp_10, e_B_lamp_12, e_B_lamp_13, e_B_lamp_14, e_B_lamp_17, e_B_lamp_18, e_B_lamp_21, e_B_lamp_24, e_B_lamp_27, e_B_lamp_28, e_B_lamp_31, e_B_lamp_32, e_B_lamp_35, e_B_lamp_38, e_B_lamp_41, e_B_lamp_42, e_B_lamp_43, e_B_lamp_46, e_B_lamp_47, e_B_lamp_48, e_B_lamp_51, e_B_lamp_52, e_B_lamp_53, e_B_lamp_56, e_B_lamp_57, e_B_lamp_58, e_B_lamp_61, e_B_lamp_62, e_B_lamp_63, e_B_lamp_64, e_B_lamp_65, e_B_lamp_68, e_B_lamp_69, e_B_lamp_70, e_B_lamp_72, e_B_lamp_74, e_B_lamp_76, e_B_lamp_79, e_B_lamp_80, e_B_lamp_82, e_B_lamp_85, e_B_lamp_87, e_B_lamp_89, e_B_lamp_90, e_B_lamp_93, e_B_lamp_95, e_B_lamp_96, e_B_lamp_98, e_B_lamp_99, e_B_lamp_102, e_B_lamp_105, e_B_lamp_106, K_B_isCell, K_B_isWithin, K_B_isTape, K_B_isKind, eq_false ha, pm_opt_some, pm_opt_none, pm_opt_if, Bool.false_eq_true, Bool.not_false, Bool.not_true, if_false, if_true, true_and, and_true, true_or, or_true, not_true_eq_false, not_false_eq_true, q10, q00, q01, q11, pk_v, pk_i, pk_l, pk_r] }⟩ (fun I1 h1 hR1 => ⟨I1, sfr_rf, K50 fun d' => by { show pm_V X (d' + 49) 159 0 [some (.ref 82), some (.int a), none, none, none, none, none] [] (pm_S0 ++ g, I1, J) _; simp only [e_M_lamp_0, e_M_lamp_1, e_M_lamp_2, e_M_lamp_3, e_M_lamp_5, e_M_lamp_8, e_M_lamp_11, e_M_lamp_13, e_M_lamp_14, e_M_lamp_15, e_M_lamp_16, e_M_lamp_17, e_M_lamp_18, e_M_lamp_19, e_M_lamp_21, e_M_lamp_23, e_M_lamp_25, e_M_lamp_28, e_M_lamp_29, e_M_lamp_32, e_M_lamp_33, e_M_lamp_35, e_M_lamp_38, e_M_lamp_39, e_M_lamp_40, e_M_lamp_43, e_M_lamp_44, e_M_lamp_46, e_M_lamp_47, e_M_lamp_49, e_M_lamp_51, e_M_lamp_53, e_M_lamp_56, e_M_lamp_58, e_M_lamp_59, e_M_lamp_61, e_M_lamp_64, e_M_lamp_65, e_M_lamp_67, e_M_lamp_70, e_M_lamp_73, e_M_lamp_74, e_M_lamp_77, e_M_lamp_79, e_M_lamp_80, e_M_lamp_83, e_M_lamp_86, e_M_lamp_88, e_M_lamp_89, e_M_lamp_91, e_M_lamp_92, e_M_lamp_95, e_M_lamp_98, e_M_lamp_99, sh_o_82, K_M_isCell, K_M_in, K_M_isTape, eq_false ha, pm_opt_some, pm_opt_none, pm_opt_if, Bool.false_eq_true, Bool.not_false, Bool.not_true, if_false, if_true, true_and, and_true, true_or, or_true, not_true_eq_false, not_false_eq_true, q10, q00, q01, q11, pk_v, pk_i, pk_l, pk_r] }⟩)
end P53
