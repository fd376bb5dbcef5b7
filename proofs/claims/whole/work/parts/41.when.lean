/-! pairs of calls: when, rope -/
/-- the first hours behind which every cell bears its load -/
def whA (I : Nat → Nat → Int32) (L : Nat → Int32) : Nat → Nat → (Nat → T3) → Int32
  | _, 0, _ => -5
  | k, n + 1, T => if allF (fun c => beI (thT (T c)) (L c) (bI I)) 0 16 = true then nI k else whA I L (k + 1) n (hsT I (hwI I) 0 (nI (hN I + k)) (wmI I (nI (hN I + k))) T)
/-- how many cells are near one -/
def cnI (j : Nat) : Int32 := fld (fun o a => a + if nrB (nI o) (nI j) = true then 1 else 0) 0 16 0
section P41
variable {X : pm_X} {d : Nat} {P Q : pm_O → Prop} {g : List pm_S} {S : List pm_S} {I I' I1 B : Nat → Nat → Int32} {J J' : Nat → Nat → Int64} {j w : Nat} {c a b s n k v l : Int32} {fi : Int32} {p : Nat → Int32} {T U : Nat → T3}
theorem cn_mul {q : Nat → Bool} {v : Int32} : ∀ (n k : Nat) (a : Int32), fld (fun o x => x + if q o = true then v else 0) k n (a * v) = fld (fun o x => x + if q o = true then 1 else 0) k n a * v := by
  intro n
  induction n with
  | zero => intro k a; rfl
  | succ n ih =>
    intro k a
    rw [fld, fld, ← ih]
    congr 1
    by_cases h : q k = true
    · simp only [h, if_true]
      rw [Int32.add_mul, Int32.one_mul]
    · simp only [h, Bool.false_eq_true, if_false, Int32.add_zero]
/-- LOADS where all have k CHILDREN -/
theorem ld_all {v : Int32} {f : Nat → Int32} (hf : ∀ o, o < 16 → f o = v) (hj : j < 16) : ldI f j = 2 * v + cnI j * v := by
  unfold ldI cnI
  rw [hf j hj]
  congr 1
  rw [← sumR_0]
  have := cn_mul (q := fun o => nrB (nI o) (nI j)) (v := v) 16 0 0
  rw [Int32.zero_mul] at this
  rw [← this]
  refine fld_congr _ _ _ (fun o x h1 h2 => ?_)
  have hn := near_all j hj o (by omega)
  by_cases q : nrB (nI o) (nI j) = true
  · simp only [q, hn.mpr q, if_true, hf o (by omega)]
  · have q' : ¬ (nearE (1 <<< (nI j &&& 31)) >>> (nI o &&& 31) &&& 1 = 1) := fun z => q (hn.mp z)
    simp only [q, q', Bool.false_eq_true, if_false]
/-- all of some, with locals that come and go -/
theorem pm_lpB {α : Type} (run : Nat → α → Prop) (p : Nat → Bool) (F : Prop) (N : Nat) (hs : ∀ k a, k < N → ∃ a', run k a = if p k = true then run (k + 1) a' else F) : ∀ (n k : Nat) (a : α), k + n = N → ∃ a', run k a = if allF p k n = true then run N a' else F := by
  intro n
  induction n with
  | zero => intro k a h; subst h; exact ⟨a, by simp [allF]⟩
  | succ n ih =>
    intro k a h
    obtain ⟨a1, h1⟩ := hs k a (by omega)
    obtain ⟨a2, h2⟩ := ih (k + 1) a1 (by omega)
    refine ⟨a2, ?_⟩
    rw [h1, h2, allF]
    cases p k <;> simp
theorem K_B_supposed (v : Int32) : ∀ (d : Nat) (Q : pm_O → Prop), pm_V X d 12 13 [some (.ref 0), some (.int v), none, none] [] (pm_S0 ++ g, I, J) Q = pm_V X d 12 34 [some (.ref 0), some (.int v), some (.int (nI 16)), none] [] (pm_S0 ++ g, pm_up I 43 (fun i => if i < 16 then v else I 43 i), J) Q := by
  intro d Q
  have L := pm_lp0 (fun k => pm_V X d 12 15 [some (.ref 0), some (.int v), some (.int (nI k)), none] [] (pm_S0 ++ g, pm_up I 43 (fun i => if i < k then v else I 43 i), J) Q) 16 (by
    intro k hk
    have h16 : ((16 : Int32) ≤ nI k) = False := by
      rw [show (16 : Int32) = nI 16 from rfl, nI_le_l (by omega) (by omega)]
      exact eq_false (by omega)
    have hb := bad_nI (k := k) (n := 16) hk (by decide)
    have hc := nI_clamp (n := k) (by omega)
    show pm_V X d 12 15 [some (.ref 0), some (.int v), some (.int (nI k)), none] [] (pm_S0 ++ g, pm_up I 43 (fun i => if i < k then v else I 43 i), J) Q = _
    rw [e_B_when_15]
    simp only [e_B_when_0, e_B_when_1, e_B_when_2, e_B_when_4, e_B_when_7, e_B_when_10, e_B_when_12, e_B_when_13, e_B_when_14, e_B_when_16, e_B_when_18, e_B_when_21, e_B_when_22, e_B_when_25, e_B_when_26, e_B_when_27, e_B_when_28, e_B_when_31, e_B_when_35, e_B_when_36, e_B_when_39, e_B_when_42, e_B_when_43, e_B_when_46, e_B_when_47, e_B_when_50, e_B_when_53, e_B_when_56, e_B_when_57, e_B_when_58, e_B_when_59, e_B_when_62, e_B_when_65, e_B_when_66, e_B_when_67, e_B_when_70, e_B_when_73, e_B_when_76, e_B_when_77, e_B_when_78, e_B_when_79, e_B_when_82, e_B_when_85, e_B_when_86, e_B_when_87, e_B_when_88, e_B_when_89, e_B_when_90, e_B_when_93, e_B_when_94, e_B_when_97, e_B_when_98, e_B_when_99, e_B_when_100, e_B_when_103, e_B_when_104, e_B_when_107, e_B_when_110, e_B_when_113, e_B_when_115, h16, sh_r_0_12, sh_w_43, hb, hc, pw98, nI_1, pm_opt_some, pm_opt_none, pm_opt_if, Bool.false_eq_true, Bool.not_false, Bool.not_true, if_false, if_true, true_and, and_true, true_or, or_true, not_true_eq_false, not_false_eq_true, q10, q00, q01, q11, pk_v, pk_i, pk_l, pk_r]
    have e : upd (fun i => if i < k then v else I 43 i) k v = (fun i => if i < k + 1 then v else I 43 i) := by
      funext i
      rw [upd_app]
      by_cases q2 : i = k
      · subst q2; simp
      · have : (i < k + 1) = (i < k) := propext (by omega)
        simp [q2, this]
    rw [e]) 16 0 (by omega)
  have e0 : pm_up I 43 (fun i => if i < 0 then v else I 43 i) = I := by
    simp only [Nat.not_lt_zero, if_false]
    exact pu_self
  rw [e0, nI_0] at L
  have h16 : ((16 : Int32) ≤ nI 16) = True := by decide
  simp only [e_B_when_13, e_B_when_14]
  rw [L, e_B_when_15]
  simp only [e_B_when_0, e_B_when_1, e_B_when_2, e_B_when_4, e_B_when_7, e_B_when_10, e_B_when_12, e_B_when_13, e_B_when_14, e_B_when_16, e_B_when_18, e_B_when_21, e_B_when_22, e_B_when_25, e_B_when_26, e_B_when_27, e_B_when_28, e_B_when_31, e_B_when_35, e_B_when_36, e_B_when_39, e_B_when_42, e_B_when_43, e_B_when_46, e_B_when_47, e_B_when_50, e_B_when_53, e_B_when_56, e_B_when_57, e_B_when_58, e_B_when_59, e_B_when_62, e_B_when_65, e_B_when_66, e_B_when_67, e_B_when_70, e_B_when_73, e_B_when_76, e_B_when_77, e_B_when_78, e_B_when_79, e_B_when_82, e_B_when_85, e_B_when_86, e_B_when_87, e_B_when_88, e_B_when_89, e_B_when_90, e_B_when_93, e_B_when_94, e_B_when_97, e_B_when_98, e_B_when_99, e_B_when_100, e_B_when_103, e_B_when_104, e_B_when_107, e_B_when_110, e_B_when_113, e_B_when_115, h16, pm_opt_some, pm_opt_none, pm_opt_if, Bool.false_eq_true, Bool.not_false, Bool.not_true, if_false, if_true, true_and, and_true, true_or, or_true, not_true_eq_false, not_false_eq_true, q10, q00, q01, q11, pk_v, pk_i, pk_l, pk_r]
theorem B_when_loop {v : Int32} {L : Nat → Int32} (hs : sfr I B) (hR : Rel B J) (hL : ∀ k, k < 16 → B 44 k = L k) : ∀ (n k : Nat) (T : Nat → T3), k + n = 241 → ∃ I2, sfr I I2 ∧ ∀ (l3 : Option Value) (d : Nat) (Q : pm_O → Prop), pm_V X (d + 9) 12 58 [some (.ref 0), some (.int v), some (.int (nI k)), l3] [] (pm_S0 ++ g, upC B 36 37 38 T 16, J) Q = Q (some (.int (whA I L k n T)), (pm_S0 ++ g, I2, J)) := by
  have hX := Rel_WX hR
  have hok := WX_ok hX
  have isw := WX_is hX
  have hN9 := Rel_hN9 hR
  have eN := Rel_hN hR
  intro n
  induction n with
  | zero =>
    intro k T hk
    obtain rfl : k = 241 := by omega
    refine ⟨upC B 36 37 38 T 16, sfr_tr hs ask_sfr, fun l3 d Q => ?_⟩
    have h1 : ((240 : Int32) < nI 241) = True := by decide
    rw [e_B_when_58]
    simp only [e_B_when_0, e_B_when_1, e_B_when_2, e_B_when_4, e_B_when_7, e_B_when_10, e_B_when_12, e_B_when_13, e_B_when_14, e_B_when_15, e_B_when_16, e_B_when_18, e_B_when_21, e_B_when_22, e_B_when_25, e_B_when_26, e_B_when_27, e_B_when_28, e_B_when_31, e_B_when_34, e_B_when_35, e_B_when_36, e_B_when_39, e_B_when_42, e_B_when_43, e_B_when_46, e_B_when_47, e_B_when_50, e_B_when_53, e_B_when_56, e_B_when_57, e_B_when_59, e_B_when_62, e_B_when_65, e_B_when_66, e_B_when_67, e_B_when_70, e_B_when_73, e_B_when_76, e_B_when_77, e_B_when_78, e_B_when_79, e_B_when_82, e_B_when_85, e_B_when_86, e_B_when_87, e_B_when_88, e_B_when_89, e_B_when_90, e_B_when_93, e_B_when_94, e_B_when_97, e_B_when_98, e_B_when_99, e_B_when_100, e_B_when_103, e_B_when_104, e_B_when_107, e_B_when_110, e_B_when_113, e_B_when_115, h1, whA, pm_opt_some, pm_opt_none, pm_opt_if, Bool.false_eq_true, Bool.not_false, Bool.not_true, if_false, if_true, true_and, and_true, true_or, or_true, not_true_eq_false, not_false_eq_true, q10, q00, q01, q11, pk_v, pk_i, pk_l, pk_r]
  | succ n ih =>
    intro k T hk
    have h1 : ((240 : Int32) < nI k) = False := by
      rw [show (240 : Int32) = nI 240 from rfl]
      exact eq_false (fun z => by rw [nI_ltI (by omega) (by omega)] at z; omega)
    have eb : allF (fun c => beI (thT (T c)) (B 44 c) (bI B)) 0 16 = allF (fun c => beI (thT (T c)) (L c) (bI I)) 0 16 := allF_congr _ _ (fun i h1 h2 => by rw [hL i (by omega), sfr_bI hs])
    by_cases q : allF (fun c => beI (thT (T c)) (L c) (bI I)) 0 16 = true
    · refine ⟨upC B 36 37 38 T 16, sfr_tr hs ask_sfr, fun l3 d Q => ?_⟩
      rw [whA, if_pos q, e_B_when_58]
      simp only [e_B_when_0, e_B_when_1, e_B_when_2, e_B_when_4, e_B_when_7, e_B_when_10, e_B_when_12, e_B_when_13, e_B_when_14, e_B_when_15, e_B_when_16, e_B_when_18, e_B_when_21, e_B_when_22, e_B_when_25, e_B_when_26, e_B_when_27, e_B_when_28, e_B_when_31, e_B_when_34, e_B_when_35, e_B_when_36, e_B_when_39, e_B_when_42, e_B_when_43, e_B_when_46, e_B_when_47, e_B_when_50, e_B_when_53, e_B_when_56, e_B_when_57, e_B_when_59, e_B_when_62, e_B_when_65, e_B_when_66, e_B_when_67, e_B_when_70, e_B_when_73, e_B_when_76, e_B_when_77, e_B_when_78, e_B_when_79, e_B_when_82, e_B_when_85, e_B_when_86, e_B_when_87, e_B_when_88, e_B_when_89, e_B_when_90, e_B_when_93, e_B_when_94, e_B_when_97, e_B_when_98, e_B_when_99, e_B_when_100, e_B_when_103, e_B_when_104, e_B_when_107, e_B_when_110, e_B_when_113, e_B_when_115, h1, sh_o_0, sh_r_0_10, K_evA hok, eb, q, pm_opt_some, pm_opt_none, pm_opt_if, Bool.false_eq_true, Bool.not_false, Bool.not_true, if_false, if_true, true_and, and_true, true_or, or_true, not_true_eq_false, not_false_eq_true, q10, q00, q01, q11, pk_v, pk_i, pk_l, pk_r]
    · obtain ⟨I2, h2, h3⟩ := ih (k + 1) (hsT I (hwI I) 0 (nI (hN I + k)) (wmI I (nI (hN I + k))) T) (by omega)
      refine ⟨I2, h2, fun l3 d Q => ?_⟩
      have e1 : upC B 36 37 38 T 16 1 = B 1 := upC_at (by decide) (by decide) (by decide)
      have e2 : hwI (upC B 36 37 38 T 16) = hwI B := hwI_fr e1
      have ehr := fun (d : Nat) (P : pm_O → Prop) => K_B_hour (X := X) (d := d) (P := P) (g := g) (J := J) (I := B) (T := T) (hour := nI (hN B + k)) (warm := wmI B (nI (hN B + k))) (heat := 0) ice_ask (by decide) (by decide) (by decide) isw hok wmI_01
      have ewm : (if dayI (nI (hN B + k)) < 10 ∧ B 1 5 >>> (dayI (nI (hN B + k)) &&& 31) &&& 1 = 1 then (1 : Int32) else 0) = wmI B (nI (hN B + k)) := rfl
      have eh : hsT B (hwI B) 0 (nI (hN B + k)) (wmI B (nI (hN B + k))) T = hsT I (hwI I) 0 (nI (hN I + k)) (wmI I (nI (hN I + k))) T := by
        rw [sfr_hw hs, sfr_hN hs, sfr_wm hs, sfr_hs hs hwI_is]
      rw [whA, if_neg q]
      rw [← h3 (some (.int (nI (hN B + k)))) d Q]
      rw [e_B_when_58]
      simp only [e_B_when_0, e_B_when_1, e_B_when_2, e_B_when_4, e_B_when_7, e_B_when_10, e_B_when_12, e_B_when_13, e_B_when_14, e_B_when_15, e_B_when_16, e_B_when_18, e_B_when_21, e_B_when_22, e_B_when_25, e_B_when_26, e_B_when_27, e_B_when_28, e_B_when_31, e_B_when_34, e_B_when_35, e_B_when_36, e_B_when_39, e_B_when_42, e_B_when_43, e_B_when_46, e_B_when_47, e_B_when_50, e_B_when_53, e_B_when_56, e_B_when_57, e_B_when_59, e_B_when_62, e_B_when_65, e_B_when_66, e_B_when_67, e_B_when_70, e_B_when_73, e_B_when_76, e_B_when_77, e_B_when_78, e_B_when_79, e_B_when_82, e_B_when_85, e_B_when_86, e_B_when_87, e_B_when_88, e_B_when_89, e_B_when_90, e_B_when_93, e_B_when_94, e_B_when_97, e_B_when_98, e_B_when_99, e_B_when_100, e_B_when_103, e_B_when_104, e_B_when_107, e_B_when_110, e_B_when_113, e_B_when_115, h1, sh_o_0, sh_o_1, sh_r_0_0, sh_r_0_10, K_evA hok, eb, q, e1, e2, eN, nI_add, K_B_holding, K_B_isWarm, ewm, ehr, eh, nI_1, pm_opt_some, pm_opt_none, pm_opt_if, Bool.false_eq_true, Bool.not_false, Bool.not_true, if_false, if_true, true_and, and_true, true_or, or_true, not_true_eq_false, not_false_eq_true, q10, q00, q01, q11, pk_v, pk_i, pk_l, pk_r]
theorem K_M_bearsEach {v : Int32} (hR : Rel B J) : pm_cl X (d + 4) 154 [.ref 82, .int v] (pm_S0 ++ g, MS B T n p, J) P = if allF (fun k => beI (thT (T k)) (2 * v + cnI k * v) (bI B)) 0 16 = true then P (some (.int 1), (pm_S0 ++ g, MS B T n p, J)) else P (some (.int 0), (pm_S0 ++ g, MS B T n p, J)) := by
  have hX := Rel_WXm hR
  have L := fun (d : Nat) (Q : pm_O → Prop) => pm_lpB (fun k (l : Option Value × Option Value) => pm_V X (d + 3) 154 2 [some (.ref 82), some (.int v), some (.int (nI k)), l.1, l.2] [] (pm_S0 ++ g, MS B T n p, J) Q) (fun k => beI (thT (T k)) (2 * v + cnI k * v) (bI B)) (Q (some (.int 0), (pm_S0 ++ g, MS B T n p, J))) 16 (by
    intro k l hk
    have h1 : ((16 : Int32) ≤ nI k) = False := by
      rw [show (16 : Int32) = nI 16 from rfl, nI_le_l (by omega) (by omega)]
      exact eq_false (by omega)
    have L2 := pm_lp (fun o x => pm_V X (d + 3) 154 13 [some (.ref 82), some (.int v), some (.int (nI k)), some (.int x), some (.int (nI o))] [] (pm_S0 ++ g, MS B T n p, J) Q) (fun o a => a + if nrB (nI o) (nI k) = true then 1 else 0) 16 (by
      intro o x ho
      have h2 : ((16 : Int32) ≤ nI o) = False := by
        rw [show (16 : Int32) = nI 16 from rfl, nI_le_l (by omega) (by omega)]
        exact eq_false (by omega)
      show pm_V X (d + 3) 154 13 [some (.ref 82), some (.int v), some (.int (nI k)), some (.int x), some (.int (nI o))] [] (pm_S0 ++ g, MS B T n p, J) Q = _
      rw [e_M_bearsEach_13]
      simp only [e_M_bearsEach_0, e_M_bearsEach_1, e_M_bearsEach_3, e_M_bearsEach_5, e_M_bearsEach_8, e_M_bearsEach_9, e_M_bearsEach_10, e_M_bearsEach_11, e_M_bearsEach_15, e_M_bearsEach_17, e_M_bearsEach_20, e_M_bearsEach_21, e_M_bearsEach_22, e_M_bearsEach_24, e_M_bearsEach_25, e_M_bearsEach_28, e_M_bearsEach_31, e_M_bearsEach_32, e_M_bearsEach_35, e_M_bearsEach_36, e_M_bearsEach_37, e_M_bearsEach_38, e_M_bearsEach_41, e_M_bearsEach_44, e_M_bearsEach_45, e_M_bearsEach_46, e_M_bearsEach_47, e_M_bearsEach_48, e_M_bearsEach_49, e_M_bearsEach_50, e_M_bearsEach_51, e_M_bearsEach_52, e_M_bearsEach_53, e_M_bearsEach_56, e_M_bearsEach_59, e_M_bearsEach_60, e_M_bearsEach_61, e_M_bearsEach_64, e_M_bearsEach_67, e_M_bearsEach_68, h2, sh_o_82, K_M_areNear, nI_1, pm_opt_some, pm_opt_none, pm_opt_if, Bool.false_eq_true, Bool.not_false, Bool.not_true, if_false, if_true, true_and, and_true, true_or, or_true, not_true_eq_false, not_false_eq_true, q10, q00, q01, q11, pk_v, pk_i, pk_l, pk_r]
      by_cases q : nrB (nI o) (nI k) = true
      · simp only [q, pm_opt_some, pm_opt_none, pm_opt_if, Bool.false_eq_true, Bool.not_false, Bool.not_true, if_false, if_true, true_and, and_true, true_or, or_true, not_true_eq_false, not_false_eq_true, q10, q00, q01, q11, pk_v, pk_i, pk_l, pk_r]
      · simp only [q, pm_opt_some, pm_opt_none, pm_opt_if, Bool.false_eq_true, Bool.not_false, Bool.not_true, if_false, if_true, true_and, and_true, true_or, or_true, not_true_eq_false, not_false_eq_true, q10, q00, q01, q11, pk_v, pk_i, pk_l, pk_r]) 16 0 0 (by omega)
    rw [nI_0] at L2
    have h16 : ((16 : Int32) ≤ nI 16) = True := by decide
    have hbe := fun (d : Nat) (P : pm_O → Prop) => K_M_bears (X := X) (d := d) (P := P) (g := g) (J := J) (T := T) (n := n) (p := p) (l := 2 * v + cnI k * v) hX hk
    rw [show wbI B (hwI B) = bI B from rfl] at hbe
    refine ⟨(some (.int (cnI k)), some (.int (nI 16))), ?_⟩
    show pm_V X (d + 3) 154 2 [some (.ref 82), some (.int v), some (.int (nI k)), l.1, l.2] [] (pm_S0 ++ g, MS B T n p, J) Q = _
    rw [e_M_bearsEach_2]
    simp only [e_M_bearsEach_0, e_M_bearsEach_1, e_M_bearsEach_3, e_M_bearsEach_5, e_M_bearsEach_8, e_M_bearsEach_9, e_M_bearsEach_10, e_M_bearsEach_11, e_M_bearsEach_15, e_M_bearsEach_17, e_M_bearsEach_20, e_M_bearsEach_21, e_M_bearsEach_22, e_M_bearsEach_24, e_M_bearsEach_25, e_M_bearsEach_28, e_M_bearsEach_31, e_M_bearsEach_32, e_M_bearsEach_35, e_M_bearsEach_36, e_M_bearsEach_37, e_M_bearsEach_38, e_M_bearsEach_41, e_M_bearsEach_44, e_M_bearsEach_45, e_M_bearsEach_46, e_M_bearsEach_47, e_M_bearsEach_48, e_M_bearsEach_49, e_M_bearsEach_50, e_M_bearsEach_51, e_M_bearsEach_52, e_M_bearsEach_53, e_M_bearsEach_56, e_M_bearsEach_59, e_M_bearsEach_60, e_M_bearsEach_61, e_M_bearsEach_64, e_M_bearsEach_67, e_M_bearsEach_68, h1, pm_opt_some, pm_opt_none, pm_opt_if, Bool.false_eq_true, Bool.not_false, Bool.not_true, if_false, if_true, true_and, and_true, true_or, or_true, not_true_eq_false, not_false_eq_true, q10, q00, q01, q11, pk_v, pk_i, pk_l, pk_r]
    rw [L2, e_M_bearsEach_13]
    rw [show fld (fun o a => a + if nrB (nI o) (nI k) = true then 1 else 0) 0 16 0 = cnI k from rfl]
    simp only [e_M_bearsEach_0, e_M_bearsEach_1, e_M_bearsEach_3, e_M_bearsEach_5, e_M_bearsEach_8, e_M_bearsEach_9, e_M_bearsEach_10, e_M_bearsEach_11, e_M_bearsEach_15, e_M_bearsEach_17, e_M_bearsEach_20, e_M_bearsEach_21, e_M_bearsEach_22, e_M_bearsEach_24, e_M_bearsEach_25, e_M_bearsEach_28, e_M_bearsEach_31, e_M_bearsEach_32, e_M_bearsEach_35, e_M_bearsEach_36, e_M_bearsEach_37, e_M_bearsEach_38, e_M_bearsEach_41, e_M_bearsEach_44, e_M_bearsEach_45, e_M_bearsEach_46, e_M_bearsEach_47, e_M_bearsEach_48, e_M_bearsEach_49, e_M_bearsEach_50, e_M_bearsEach_51, e_M_bearsEach_52, e_M_bearsEach_53, e_M_bearsEach_56, e_M_bearsEach_59, e_M_bearsEach_60, e_M_bearsEach_61, e_M_bearsEach_64, e_M_bearsEach_67, e_M_bearsEach_68, h16, sh_o_82, hbe, nI_1, pm_opt_some, pm_opt_none, pm_opt_if, Bool.false_eq_true, Bool.not_false, Bool.not_true, if_false, if_true, true_and, and_true, true_or, or_true, not_true_eq_false, not_false_eq_true, q10, q00, q01, q11, pk_v, pk_i, pk_l, pk_r]) 16 0 (none, none) (by omega)
  have h16 : ((16 : Int32) ≤ nI 16) = True := by decide
  have A : ∀ (d : Nat) (Q : pm_O → Prop), pm_V X (d + 3) 154 0 [some (.ref 82), some (.int v), none, none, none] [] (pm_S0 ++ g, MS B T n p, J) Q = if allF (fun k => beI (thT (T k)) (2 * v + cnI k * v) (bI B)) 0 16 = true then Q (some (.int 1), (pm_S0 ++ g, MS B T n p, J)) else Q (some (.int 0), (pm_S0 ++ g, MS B T n p, J)) := by
    intro d Q
    obtain ⟨l, L'⟩ := L d Q
    simp only [nI_0] at L'
    simp only [e_M_bearsEach_0, e_M_bearsEach_1, e_M_bearsEach_3, e_M_bearsEach_5, e_M_bearsEach_8, e_M_bearsEach_9, e_M_bearsEach_10, e_M_bearsEach_11, e_M_bearsEach_15, e_M_bearsEach_17, e_M_bearsEach_20, e_M_bearsEach_21, e_M_bearsEach_22, e_M_bearsEach_24, e_M_bearsEach_25, e_M_bearsEach_28, e_M_bearsEach_31, e_M_bearsEach_32, e_M_bearsEach_35, e_M_bearsEach_36, e_M_bearsEach_37, e_M_bearsEach_38, e_M_bearsEach_41, e_M_bearsEach_44, e_M_bearsEach_45, e_M_bearsEach_46, e_M_bearsEach_47, e_M_bearsEach_48, e_M_bearsEach_49, e_M_bearsEach_50, e_M_bearsEach_51, e_M_bearsEach_52, e_M_bearsEach_53, e_M_bearsEach_56, e_M_bearsEach_59, e_M_bearsEach_60, e_M_bearsEach_61, e_M_bearsEach_64, e_M_bearsEach_67, e_M_bearsEach_68]
    rw [L', e_M_bearsEach_2]
    simp only [e_M_bearsEach_0, e_M_bearsEach_1, e_M_bearsEach_3, e_M_bearsEach_5, e_M_bearsEach_8, e_M_bearsEach_9, e_M_bearsEach_10, e_M_bearsEach_11, e_M_bearsEach_15, e_M_bearsEach_17, e_M_bearsEach_20, e_M_bearsEach_21, e_M_bearsEach_22, e_M_bearsEach_24, e_M_bearsEach_25, e_M_bearsEach_28, e_M_bearsEach_31, e_M_bearsEach_32, e_M_bearsEach_35, e_M_bearsEach_36, e_M_bearsEach_37, e_M_bearsEach_38, e_M_bearsEach_41, e_M_bearsEach_44, e_M_bearsEach_45, e_M_bearsEach_46, e_M_bearsEach_47, e_M_bearsEach_48, e_M_bearsEach_49, e_M_bearsEach_50, e_M_bearsEach_51, e_M_bearsEach_52, e_M_bearsEach_53, e_M_bearsEach_56, e_M_bearsEach_59, e_M_bearsEach_60, e_M_bearsEach_61, e_M_bearsEach_64, e_M_bearsEach_67, e_M_bearsEach_68, h16, pm_opt_some, pm_opt_none, pm_opt_if, Bool.false_eq_true, Bool.not_false, Bool.not_true, if_false, if_true, true_and, and_true, true_or, or_true, not_true_eq_false, not_false_eq_true, q10, q00, q01, q11, pk_v, pk_i, pk_l, pk_r]
  refine K_if (k := 3) (fun hq d' => ?_) (fun hq d' => ?_)
  · show pm_V X (d' + 3) 154 0 [some (.ref 82), some (.int v), none, none, none] [] (pm_S0 ++ g, MS B T n p, J) _
    rw [A, if_pos hq]
  · show pm_V X (d' + 3) 154 0 [some (.ref 82), some (.int v), none, none, none] [] (pm_S0 ++ g, MS B T n p, J) _
    rw [A, if_neg hq]
theorem M_when_loop {v : Int32} (hs : sfr I B) (hR : Rel B J) (hL : B 82 27 = -1) : ∀ (n k : Nat) (T : Nat → T3) (p : Nat → Int32), k + n = 241 → Tok T → ∃ I2, sfr B I2 ∧ ∀ (d : Nat) (Q : pm_O → Prop), pm_V X (d + 9) 155 20 [some (.ref 82), some (.int v), some (.int (nI k))] [] (pm_S0 ++ g, MS B T (nI (hN I + k)) p, J) Q = Q (some (.int (whA I (fun c => 2 * v + cnI c * v) k n T)), (pm_S0 ++ g, I2, J)) := by
  have hN9 := Rel_hN9 hR
  have ebI := sfr_bI hs
  intro n
  induction n with
  | zero =>
    intro k T p hk hT
    obtain rfl : k = 241 := by omega
    refine ⟨MS B T (nI (hN I + 241)) p, MS_sfr, fun d Q => ?_⟩
    have h1 : ((241 : Int32) ≤ nI 241) = True := by decide
    rw [e_M_when_20]
    simp only [e_M_when_0, e_M_when_1, e_M_when_2, e_M_when_3, e_M_when_5, e_M_when_8, e_M_when_11, e_M_when_13, e_M_when_14, e_M_when_15, e_M_when_18, e_M_when_19, e_M_when_21, e_M_when_24, e_M_when_27, e_M_when_28, e_M_when_29, e_M_when_32, e_M_when_35, e_M_when_36, e_M_when_37, e_M_when_38, e_M_when_39, e_M_when_42, e_M_when_45, e_M_when_48, e_M_when_50, h1, whA, pm_opt_some, pm_opt_none, pm_opt_if, Bool.false_eq_true, Bool.not_false, Bool.not_true, if_false, if_true, true_and, and_true, true_or, or_true, not_true_eq_false, not_false_eq_true, q10, q00, q01, q11, pk_v, pk_i, pk_l, pk_r]
  | succ n ih =>
    intro k T p hk hT
    have h1 : ((241 : Int32) ≤ nI k) = False := by
      rw [show (241 : Int32) = nI 241 from rfl, nI_le_l (by omega) (by omega)]
      exact eq_false (by omega)
    by_cases q : allF (fun c => beI (thT (T c)) (2 * v + cnI c * v) (bI I)) 0 16 = true
    · refine ⟨MS B T (nI (hN I + k)) p, MS_sfr, fun d Q => ?_⟩
      rw [whA, if_pos q, e_M_when_20]
      simp only [e_M_when_0, e_M_when_1, e_M_when_2, e_M_when_3, e_M_when_5, e_M_when_8, e_M_when_11, e_M_when_13, e_M_when_14, e_M_when_15, e_M_when_18, e_M_when_19, e_M_when_21, e_M_when_24, e_M_when_27, e_M_when_28, e_M_when_29, e_M_when_32, e_M_when_35, e_M_when_36, e_M_when_37, e_M_when_38, e_M_when_39, e_M_when_42, e_M_when_45, e_M_when_48, e_M_when_50, h1, sh_o_82, K_M_bearsEach hR, ebI, q, pm_opt_some, pm_opt_none, pm_opt_if, Bool.false_eq_true, Bool.not_false, Bool.not_true, if_false, if_true, true_and, and_true, true_or, or_true, not_true_eq_false, not_false_eq_true, q10, q00, q01, q11, pk_v, pk_i, pk_l, pk_r]
    · obtain ⟨p1, hp⟩ := M_goH (X := X) (g := g) (p := p) (m := 1) (h0 := hN I + k) (T := T) hs hR hL hT (by omega)
      have eh : hrT I (hwI I) 0 (hN I + k) 1 T = hsT I (hwI I) 0 (nI (hN I + k)) (wmI I (nI (hN I + k))) T := rfl
      rw [eh] at hp
      have hT' : Tok (hsT I (hwI I) 0 (nI (hN I + k)) (wmI I (nI (hN I + k))) T) := by
        rw [← eh]
        have e2 : hrT I (hwI I) 0 (hN I + k) 1 T = hrM B (hwI B) (hN I + k) 1 T := by
          rw [hrM_no hL, sfr_hw hs, sfr_hr hs hwI_is]
        rw [e2]
        exact hrM_ok (Rel_WX hR) (Rel_MC hR) hT
      obtain ⟨I2, h2, h3⟩ := ih (k + 1) _ p1 (by omega) hT'
      refine ⟨I2, h2, fun d Q => ?_⟩
      have hp' := hp
      rw [show nI 1 = 1 from rfl] at hp'
      rw [whA, if_neg q, ← h3 d Q, e_M_when_20]
      simp only [e_M_when_0, e_M_when_1, e_M_when_2, e_M_when_3, e_M_when_5, e_M_when_8, e_M_when_11, e_M_when_13, e_M_when_14, e_M_when_15, e_M_when_18, e_M_when_19, e_M_when_21, e_M_when_24, e_M_when_27, e_M_when_28, e_M_when_29, e_M_when_32, e_M_when_35, e_M_when_36, e_M_when_37, e_M_when_38, e_M_when_39, e_M_when_42, e_M_when_45, e_M_when_48, e_M_when_50, h1, sh_o_82, K_M_bearsEach hR, ebI, q, hp', nI_1, pm_opt_some, pm_opt_none, pm_opt_if, Bool.false_eq_true, Bool.not_false, Bool.not_true, if_false, if_true, true_and, and_true, true_or, or_true, not_true_eq_false, not_false_eq_true, q10, q00, q01, q11, pk_v, pk_i, pk_l, pk_r]
      rfl
theorem Pair_when (hR : Rel I J) : Pair X 12 155 [.int a] g I J := by
  by_cases ha : 1 ≤ a ∧ a ≤ 9
  · refine Pair_q (v := .int (whA I (fun c => 2 * a + cnI c * a) 0 241 (rowT I 3 4 5))) hR ?_ (fun I1 h1 hR1 => ?_)
    · have hs : sfr I (pm_up (pm_up I 43 (fun i => if i < 16 then a else I 43 i)) 44 (fun k => if k < 16 then ldI (pm_up I 43 (fun i => if i < 16 then a else I 43 i) 43) k else pm_up I 43 (fun i => if i < 16 then a else I 43 i) 44 k)) := sfr_tr (sfr_of (L := [43]) (by decide) (pm_fr_up (by decide))) (sfr_of (L := [44]) (by decide) (pm_fr_up (by decide)))
      obtain ⟨I2, h2, h3⟩ := B_when_loop (X := X) (g := g) (v := a) (L := fun c => 2 * a + cnI c * a) hs (Rel_s hs hR) (fun k hk => by
        rw [pu_eq, if_pos hk, ld_all (v := a) (fun o ho => by rw [pu_eq, if_pos ho]) hk]) 241 0 (rowT I 3 4 5) (by omega)
      refine ⟨I2, h2, K50 fun d' => ?_⟩
      show pm_V X (d' + 49) 12 0 [some (.ref 0), some (.int a), none, none] [] (pm_S0 ++ g, I, J) _
      simp only [e_B_when_0, e_B_when_1, e_B_when_2, e_B_when_4, e_B_when_7, K_B_isWithin, eq_true ha, pm_opt_some, pm_opt_none, pm_opt_if, Bool.false_eq_true, Bool.not_false, Bool.not_true, if_false, if_true, true_and, and_true, true_or, or_true, not_true_eq_false, not_false_eq_true, q10, q00, q01, q11, pk_v, pk_i, pk_l, pk_r]
      rw [K_B_supposed]
      have h3' := h3 none (d' + 40)
      rw [nI_0] at h3'
      have ero : rowT (pm_up (pm_up I 43 (fun i => if i < 16 then a else I 43 i)) 44 (fun k => if k < 16 then ldI (pm_up I 43 (fun i => if i < 16 then a else I 43 i) 43) k else pm_up I 43 (fun i => if i < 16 then a else I 43 i) 44 k)) 3 4 5 = rowT I 3 4 5 := sfr_row hs
      simp only [e_B_when_0, e_B_when_1, e_B_when_2, e_B_when_4, e_B_when_7, e_B_when_10, e_B_when_12, e_B_when_14, e_B_when_15, e_B_when_16, e_B_when_18, e_B_when_21, e_B_when_22, e_B_when_25, e_B_when_26, e_B_when_27, e_B_when_28, e_B_when_31, e_B_when_34, e_B_when_35, e_B_when_36, e_B_when_39, e_B_when_42, e_B_when_43, e_B_when_46, e_B_when_47, e_B_when_50, e_B_when_53, e_B_when_56, e_B_when_57, e_B_when_59, e_B_when_62, e_B_when_65, e_B_when_66, e_B_when_67, e_B_when_70, e_B_when_73, e_B_when_76, e_B_when_77, e_B_when_78, e_B_when_79, e_B_when_82, e_B_when_85, e_B_when_86, e_B_when_87, e_B_when_88, e_B_when_89, e_B_when_90, e_B_when_93, e_B_when_94, e_B_when_97, e_B_when_98, e_B_when_99, e_B_when_100, e_B_when_103, e_B_when_104, e_B_when_107, e_B_when_110, e_B_when_113, e_B_when_115, sh_o_0, sh_r_0_0, sh_r_0_10, sh_r_0_12, sh_r_1_0, sh_o_35, K_B_fillLoads (g := g) (a := 43) rfl (by decide), K_cpA, ero, pm_opt_some, pm_opt_none, pm_opt_if, Bool.false_eq_true, Bool.not_false, Bool.not_true, if_false, if_true, true_and, and_true, true_or, or_true, not_true_eq_false, not_false_eq_true, q10, q00, q01, q11, pk_v, pk_i, pk_l, pk_r]
      rw [h3']
    · have hs : sfr I (nL I1) := sfr_tr h1 nL_sfr
      obtain ⟨I2, h2, h3⟩ := M_when_loop (X := X) (g := g) (v := a) hs (Rel_s nL_sfr hR1) nL_27 241 0 (rowT I 3 4 5) (I1 98) (by omega) (Rel_Tok hR)
      refine ⟨I2, sfr_tr nL_sfr h2, K50 fun d' => ?_⟩
      show pm_V X (d' + 49) 155 0 [some (.ref 82), some (.int a), none] [] (pm_S0 ++ g, I1, J) _
      have h3' := h3 (d' + 40)
      simp only [nI_0, Nat.add_zero] at h3'
      simp only [e_M_when_0, e_M_when_1, e_M_when_2, e_M_when_3, e_M_when_5, e_M_when_8, e_M_when_11, e_M_when_13, e_M_when_14, e_M_when_15, e_M_when_18, e_M_when_19, e_M_when_21, e_M_when_24, e_M_when_27, e_M_when_28, e_M_when_29, e_M_when_32, e_M_when_35, e_M_when_36, e_M_when_37, e_M_when_38, e_M_when_39, e_M_when_42, e_M_when_45, e_M_when_48, e_M_when_50, K_M_in, eq_true ha, sh_o_82, M_asIs hR1 h1, pm_opt_some, pm_opt_none, pm_opt_if, Bool.false_eq_true, Bool.not_false, Bool.not_true, if_false, if_true, true_and, and_true, true_or, or_true, not_true_eq_false, not_false_eq_true, q10, q00, q01, q11, pk_v, pk_i, pk_l, pk_r]
      rw [h3']
  · exact Pair_q (v := .int (-2)) hR ⟨I, sfr_rf, K50 fun d' => by { show pm_V X (d' + 49) 12 0 [some (.ref 0), some (.int a), none, none] [] (pm_S0 ++ g, I, J) _; simp only [e_B_when_0, e_B_when_1, e_B_when_2, e_B_when_4, e_B_when_7, e_B_when_10, e_B_when_12, e_B_when_13, e_B_when_14, e_B_when_15, e_B_when_16, e_B_when_18, e_B_when_21, e_B_when_22, e_B_when_25, e_B_when_26, e_B_when_27, e_B_when_28, e_B_when_31, e_B_when_34, e_B_when_35, e_B_when_36, e_B_when_39, e_B_when_42, e_B_when_43, e_B_when_46, e_B_when_47, e_B_when_50, e_B_when_53, e_B_when_56, e_B_when_57, e_B_when_58, e_B_when_59, e_B_when_62, e_B_when_65, e_B_when_66, e_B_when_67, e_B_when_70, e_B_when_73, e_B_when_76, e_B_when_77, e_B_when_78, e_B_when_79, e_B_when_82, e_B_when_85, e_B_when_86, e_B_when_87, e_B_when_88, e_B_when_89, e_B_when_90, e_B_when_93, e_B_when_94, e_B_when_97, e_B_when_98, e_B_when_99, e_B_when_100, e_B_when_103, e_B_when_104, e_B_when_107, e_B_when_110, e_B_when_113, e_B_when_115, K_B_isCell, K_B_isWithin, K_B_isTape, K_B_isKind, eq_false ha, pm_opt_some, pm_opt_none, pm_opt_if, Bool.false_eq_true, Bool.not_false, Bool.not_true, if_false, if_true, true_and, and_true, true_or, or_true, not_true_eq_false, not_false_eq_true, q10, q00, q01, q11, pk_v, pk_i, pk_l, pk_r] }⟩ (fun I1 h1 hR1 => ⟨I1, sfr_rf, K50 fun d' => by { show pm_V X (d' + 49) 155 0 [some (.ref 82), some (.int a), none] [] (pm_S0 ++ g, I1, J) _; simp only [e_M_when_0, e_M_when_1, e_M_when_2, e_M_when_3, e_M_when_5, e_M_when_8, e_M_when_11, e_M_when_13, e_M_when_14, e_M_when_15, e_M_when_18, e_M_when_19, e_M_when_20, e_M_when_21, e_M_when_24, e_M_when_27, e_M_when_28, e_M_when_29, e_M_when_32, e_M_when_35, e_M_when_36, e_M_when_37, e_M_when_38, e_M_when_39, e_M_when_42, e_M_when_45, e_M_when_48, e_M_when_50, sh_o_82, K_M_isCell, K_M_in, K_M_isTape, eq_false ha, pm_opt_some, pm_opt_none, pm_opt_if, Bool.false_eq_true, Bool.not_false, Bool.not_true, if_false, if_true, true_and, and_true, true_or, or_true, not_true_eq_false, not_false_eq_true, q10, q00, q01, q11, pk_v, pk_i, pk_l, pk_r] }⟩)
end P41
