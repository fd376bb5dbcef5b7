/-! pairs of calls: sweep, lamp -/
def AA (I : Nat → Nat → Int32) (T U : Nat → T3) : Nat → Nat → Int32 := upC (upC I 36 37 38 T 16) 40 41 42 U 16
/-- the CELL of which something is most, the least such -/
def swF (f : Nat → Int32) : Nat := fld (fun c best => if f c ≤ f best then best else c) 1 15 0
def swD (T U : Nat → T3) (c : Nat) : Int32 := thT (U c) - thT (T c)
def swV (T U : Nat → T3) (b : Int32) : Int32 := if b = 0 then nI (swF (swD T U)) else swD T U (swF (swD T U))
/-- snow gone -/
def swR (I : Nat → Nat → Int32) : Nat → T3 := fun k => (I 3 k, I 4 k, 0)
section P52
variable {X : pm_X} {d : Nat} {P Q : pm_O → Prop} {g : List pm_S} {S : List pm_S} {I I' I1 B : Nat → Nat → Int32} {J J' : Nat → Nat → Int64} {j w m : Nat} {c a b s n k l : Int32} {fi : Int32} {p : Nat → Int32} {T U : Nat → T3}
theorem AA_comm : AA I T U = upC (upC I 40 41 42 U 16) 36 37 38 T 16 := upC_comm (by decide)
theorem AA_sfr : sfr I (AA I T U) := sfr_tr ask_sfr too_sfr
theorem K_AA1 (hj : j < 16) : pm_cl X (d + 1) 66 [.ref 35, .int (nI j)] (pm_S0 ++ g, AA I T U, J) P = P (some (.int (thT (T j))), (pm_S0 ++ g, AA I T U, J)) := by
  rw [AA_comm]
  exact K_ask hj
theorem K_AA2 (hj : j < 16) : pm_cl X (d + 1) 66 [.ref 39, .int (nI j)] (pm_S0 ++ g, AA I T U, J) P = P (some (.int (thT (U j))), (pm_S0 ++ g, AA I T U, J)) := K_too hj
theorem K_hr1 {n : Nat} {heat : Int32} (hR : Rel I J) (hn : n ≤ 10000) : pm_cl X (d + 10) 54 [.ref 0, .ref 35, .int (nI n), .int heat] (pm_S0 ++ g, AA I T U, J) P = P (none, (pm_S0 ++ g, AA I (hrT I (hwI I) heat (hN I) n T) U, J)) := by
  have hs : sfr I (upC I 40 41 42 U 16) := too_sfr
  rw [AA_comm, K_hrA (Rel_CH (Rel_s hs hR)) hn, sfr_hw hs, sfr_hN hs, sfr_hr hs hwI_is, ← AA_comm]
theorem K_hr2 {n : Nat} {heat : Int32} (hR : Rel I J) (hn : n ≤ 10000) : pm_cl X (d + 10) 54 [.ref 0, .ref 39, .int (nI n), .int heat] (pm_S0 ++ g, AA I T U, J) P = P (none, (pm_S0 ++ g, AA I T (hrT I (hwI I) heat (hN I) n U), J)) := by
  have hs : sfr I (upC I 36 37 38 T 16) := ask_sfr
  unfold AA
  rw [K_B_passHours ice_too (by decide) (by decide) (by decide) (by decide) (Rel_CH (Rel_s hs hR)) hn, sfr_hw hs, sfr_hN hs, sfr_hr hs hwI_is]
theorem K_cp2 : pm_cl X (d + 3) 64 [.ref 39, .ref 2] (pm_S0 ++ g, upC I 36 37 38 T 16, J) P = P (none, (pm_S0 ++ g, AA I T (rowT I 3 4 5), J)) := by
  rw [K_I_copyFrom ice_too ice_now (by decide)]
  have : rowT (upC I 36 37 38 T 16) 3 4 5 = rowT I 3 4 5 := sfr_row ask_sfr
  rw [this]
  rfl
theorem swF_lt {f : Nat → Int32} : swF f < 16 := by
  refine fld_inv (f := fun c best => if f c ≤ f best then best else c) (fun _ best => best < 16) 15 1 0 (fun i b h1 h2 h3 => ?_) (by decide)
  try dsimp only
  split
  · exact h3
  · omega
theorem swF_cg {f f' : Nat → Int32} (h : ∀ c, c < 16 → f c = f' c) : swF f = swF f' := by
  unfold swF
  refine fld_congrI (fun _ best => best < 16) 15 1 0 (fun i b h1 h2 h3 => ?_) (by decide)
  rw [h i (by omega), h b h3]
  refine ⟨rfl, ?_⟩
  split
  · exact h3
  · omega
theorem B_sweep_snow : ∀ (d : Nat) (Q : pm_O → Prop), pm_V X d 15 52 [some (.ref 0), some (.int a), some (.int b), none, none, none, none] [] (pm_S0 ++ g, AA I T (rowT I 3 4 5), J) Q = pm_V X d 15 76 [some (.ref 0), some (.int a), some (.int b), some (.int (nI 16)), none, none, none] [] (pm_S0 ++ g, AA I T (swR I), J) Q := by
  intro d Q
  have L := pm_lp0 (fun k => pm_V X d 15 54 [some (.ref 0), some (.int a), some (.int b), some (.int (nI k)), none, none, none] [] (pm_S0 ++ g, AA I T (fun i => if i < k then swR I i else rowT I 3 4 5 i), J) Q) 16 (by
    intro k hk
    have h1 : ((16 : Int32) ≤ nI k) = False := by
      rw [show (16 : Int32) = nI 16 from rfl, nI_le_l (by omega) (by omega)]
      exact eq_false (by omega)
    have hb := bad_nI (k := k) (n := 16) hk (by decide)
    have hc := nI_clamp (n := k) (by omega)
    show pm_V X d 15 54 [some (.ref 0), some (.int a), some (.int b), some (.int (nI k)), none, none, none] [] (pm_S0 ++ g, AA I T (fun i => if i < k then swR I i else rowT I 3 4 5 i), J) Q = _
    rw [e_B_sweep_54]
    simp only [e_B_sweep_0, e_B_sweep_1, e_B_sweep_2, e_B_sweep_3, e_B_sweep_6, e_B_sweep_9, e_B_sweep_10, e_B_sweep_11, e_B_sweep_12, e_B_sweep_13, e_B_sweep_15, e_B_sweep_18, e_B_sweep_21, e_B_sweep_23, e_B_sweep_24, e_B_sweep_25, e_B_sweep_28, e_B_sweep_29, e_B_sweep_32, e_B_sweep_35, e_B_sweep_38, e_B_sweep_39, e_B_sweep_42, e_B_sweep_43, e_B_sweep_46, e_B_sweep_49, e_B_sweep_52, e_B_sweep_53, e_B_sweep_55, e_B_sweep_57, e_B_sweep_60, e_B_sweep_61, e_B_sweep_64, e_B_sweep_67, e_B_sweep_68, e_B_sweep_69, e_B_sweep_70, e_B_sweep_73, e_B_sweep_77, e_B_sweep_78, e_B_sweep_81, e_B_sweep_82, e_B_sweep_83, e_B_sweep_86, e_B_sweep_87, e_B_sweep_88, e_B_sweep_91, e_B_sweep_92, e_B_sweep_93, e_B_sweep_96, e_B_sweep_97, e_B_sweep_98, e_B_sweep_99, e_B_sweep_102, e_B_sweep_103, e_B_sweep_106, e_B_sweep_107, e_B_sweep_110, e_B_sweep_111, e_B_sweep_114, e_B_sweep_115, e_B_sweep_117, e_B_sweep_118, e_B_sweep_120, e_B_sweep_122, e_B_sweep_124, e_B_sweep_127, e_B_sweep_128, e_B_sweep_131, e_B_sweep_133, e_B_sweep_136, e_B_sweep_137, e_B_sweep_140, e_B_sweep_142, e_B_sweep_145, e_B_sweep_146, e_B_sweep_148, e_B_sweep_150, e_B_sweep_152, e_B_sweep_155, e_B_sweep_157, e_B_sweep_158, e_B_sweep_160, e_B_sweep_162, e_B_sweep_165, e_B_sweep_168, e_B_sweep_169, e_B_sweep_172, e_B_sweep_173, e_B_sweep_176, e_B_sweep_178, h1, sh_r_0_11, sh_r_39_2, sh_w_42, hb, hc, nI_1, pm_opt_some, pm_opt_none, pm_opt_if, Bool.false_eq_true, Bool.not_false, Bool.not_true, if_false, if_true, true_and, and_true, true_or, or_true, not_true_eq_false, not_false_eq_true, q10, q00, q01, q11, pk_v, pk_i, pk_l, pk_r]
    have e : pm_w (AA I T (fun i => if i < k then swR I i else rowT I 3 4 5 i)) 42 k 0 = AA I T (fun i => if i < k + 1 then swR I i else rowT I 3 4 5 i) := by
      unfold AA
      funext q i
      rw [pm_w_app]
      unfold upC
      by_cases hi : i = k
      · subst hi
        by_cases h1 : q = 40
        · subst h1; simp [hk, swR, rowT]
        · by_cases h2 : q = 41
          · subst h2; simp [hk, swR, rowT]
          · by_cases h3 : q = 42
            · subst h3; simp [hk, swR, rowT]
            · simp [h1, h2, h3]
      · have : (i < k + 1) = (i < k) := propext (by omega)
        simp only [hi, and_false, if_false, this]
    rw [e]) 16 0 (by omega)
  have e0 : (fun i => if i < 0 then swR I i else rowT I 3 4 5 i) = rowT I 3 4 5 := by
    funext i
    rw [if_neg (by omega)]
  have e16 : AA I T (fun i => if i < 16 then swR I i else rowT I 3 4 5 i) = AA I T (swR I) := by
    unfold AA
    exact upC_cg (fun k hk => by rw [if_pos hk])
  rw [e0, nI_0] at L
  have h16 : ((16 : Int32) ≤ nI 16) = True := by decide
  simp only [e_B_sweep_52, e_B_sweep_53]
  rw [L, e_B_sweep_54]
  simp only [e_B_sweep_55, e_B_sweep_57, h16, if_true, e16]
theorem B_sweep_loop : ∀ (d : Nat) (Q : pm_O → Prop), ∃ l6, pm_V X (d + 2) 15 120 [some (.ref 0), some (.int a), some (.int b), some (.int 0), some (.int (swD T U 0)), some (.int 1), none] [] (pm_S0 ++ g, AA I T U, J) Q = pm_V X (d + 2) 15 120 [some (.ref 0), some (.int a), some (.int b), some (.int (nI (swF (swD T U)))), some (.int (swD T U (swF (swD T U)))), some (.int (nI 16)), l6] [] (pm_S0 ++ g, AA I T U, J) Q := by
  intro d Q
  have L := pm_lpR (fun k (x : Nat × Option Value) => pm_V X (d + 2) 15 120 [some (.ref 0), some (.int a), some (.int b), some (.int (nI x.1)), some (.int (swD T U x.1)), some (.int (nI k)), x.2] [] (pm_S0 ++ g, AA I T U, J) Q) (fun k x => 1 ≤ k ∧ x.1 < 16 ∧ x.1 = fld (fun c best => if swD T U c ≤ swD T U best then best else c) 1 (k - 1) 0) 16 (by
    intro k x hk ⟨hk1, hx, ex⟩
    have h1 : ((16 : Int32) ≤ nI k) = False := by
      rw [show (16 : Int32) = nI 16 from rfl, nI_le_l (by omega) (by omega)]
      exact eq_false (by omega)
    refine ⟨(if swD T U k ≤ swD T U x.1 then x.1 else k, some (.int (swD T U k))), ⟨by omega, ?_, ?_⟩, ?_⟩
    · dsimp only
      split
      · exact hx
      · exact hk
    · dsimp only
      rw [show k + 1 - 1 = (k - 1) + 1 by omega, fld_s, ← ex, show 1 + (k - 1) = k by omega]
    · show pm_V X (d + 2) 15 120 [some (.ref 0), some (.int a), some (.int b), some (.int (nI x.1)), some (.int (swD T U x.1)), some (.int (nI k)), x.2] [] (pm_S0 ++ g, AA I T U, J) Q = _
      rw [e_B_sweep_120]
      simp only [e_B_sweep_0, e_B_sweep_1, e_B_sweep_2, e_B_sweep_3, e_B_sweep_6, e_B_sweep_9, e_B_sweep_10, e_B_sweep_11, e_B_sweep_12, e_B_sweep_13, e_B_sweep_15, e_B_sweep_18, e_B_sweep_21, e_B_sweep_23, e_B_sweep_24, e_B_sweep_25, e_B_sweep_28, e_B_sweep_29, e_B_sweep_32, e_B_sweep_35, e_B_sweep_38, e_B_sweep_39, e_B_sweep_42, e_B_sweep_43, e_B_sweep_46, e_B_sweep_49, e_B_sweep_52, e_B_sweep_53, e_B_sweep_54, e_B_sweep_55, e_B_sweep_57, e_B_sweep_60, e_B_sweep_61, e_B_sweep_64, e_B_sweep_67, e_B_sweep_68, e_B_sweep_69, e_B_sweep_70, e_B_sweep_73, e_B_sweep_76, e_B_sweep_77, e_B_sweep_78, e_B_sweep_81, e_B_sweep_82, e_B_sweep_83, e_B_sweep_86, e_B_sweep_87, e_B_sweep_88, e_B_sweep_91, e_B_sweep_92, e_B_sweep_93, e_B_sweep_96, e_B_sweep_97, e_B_sweep_98, e_B_sweep_99, e_B_sweep_102, e_B_sweep_103, e_B_sweep_106, e_B_sweep_107, e_B_sweep_110, e_B_sweep_111, e_B_sweep_114, e_B_sweep_115, e_B_sweep_117, e_B_sweep_118, e_B_sweep_122, e_B_sweep_124, e_B_sweep_127, e_B_sweep_128, e_B_sweep_131, e_B_sweep_133, e_B_sweep_136, e_B_sweep_137, e_B_sweep_140, e_B_sweep_142, e_B_sweep_145, e_B_sweep_146, e_B_sweep_148, e_B_sweep_150, e_B_sweep_152, e_B_sweep_155, e_B_sweep_157, e_B_sweep_158, e_B_sweep_160, e_B_sweep_162, e_B_sweep_165, e_B_sweep_168, e_B_sweep_169, e_B_sweep_172, e_B_sweep_173, e_B_sweep_176, e_B_sweep_178, h1, sh_o_35, sh_o_39, sh_r_0_10, sh_r_0_11, K_AA1 hk, K_AA2 hk, nI_1, pm_opt_some, pm_opt_none, pm_opt_if, Bool.false_eq_true, Bool.not_false, Bool.not_true, if_false, if_true, true_and, and_true, true_or, or_true, not_true_eq_false, not_false_eq_true, q10, q00, q01, q11, pk_v, pk_i, pk_l, pk_r]
      show (if swD T U k ≤ swD T U x.1 then _ else _) = _
      by_cases q : swD T U k ≤ swD T U x.1
      · simp only [q, pm_opt_some, pm_opt_none, pm_opt_if, Bool.false_eq_true, Bool.not_false, Bool.not_true, if_false, if_true, true_and, and_true, true_or, or_true, not_true_eq_false, not_false_eq_true, q10, q00, q01, q11, pk_v, pk_i, pk_l, pk_r]
        rfl
      · simp only [q, pm_opt_some, pm_opt_none, pm_opt_if, Bool.false_eq_true, Bool.not_false, Bool.not_true, if_false, if_true, true_and, and_true, true_or, or_true, not_true_eq_false, not_false_eq_true, q10, q00, q01, q11, pk_v, pk_i, pk_l, pk_r]
        rfl) 15 1 (0, none) (by omega) ⟨by omega, by decide, rfl⟩
  obtain ⟨⟨x1, l6⟩, ⟨_, hx, ex⟩, hL⟩ := L
  refine ⟨l6, ?_⟩
  simp only at ex hL
  rw [show (16 - 1 : Nat) = 15 from rfl] at ex
  rw [show swF (swD T U) = x1 from ex.symm]
  exact hL
theorem MS_101 {k : Nat} (hk : k < 16) {v : Int32} : pm_w (MS B T n p) 101 k v = MS B (fun i => if i = k then ((T i).1, (T i).2.1, v) else T i) n p := by
  unfold MS
  funext q i
  rw [pm_w_app]
  unfold upC
  by_cases hi : i = k
  · subst hi
    by_cases h1 : q = 99
    · subst h1; simp [hk]
    · by_cases h2 : q = 100
      · subst h2; simp [hk]
      · by_cases h3 : q = 101
        · subst h3; simp [hk]
        · simp [h1, h2, h3]
  · simp only [hi, and_false, if_false]
theorem MS_cg (h : ∀ k, k < 16 → T k = U k) : MS B T n p = MS B U n p := by
  unfold MS
  exact upC_cg h
theorem MS_104 {F : Nat → Int32} {k : Nat} {v : Int32} : pm_w (MS (pm_up B 104 F) T n p) 104 k v = MS (pm_up B 104 (upd F k v)) T n p := by
  have e : pm_w (MS (pm_up B 104 F) T n p) 104 k v = pm_up (MS (pm_up B 104 F) T n p) 104 (upd (MS (pm_up B 104 F) T n p 104) k v) := rfl
  rw [e, MS_rd (by decide), pu_eq, MS_up (by decide), pw98u]
theorem sfr_104 {F : Nat → Int32} : sfr I (pm_up I 104 F) := sfr_of (L := [104]) (by decide) (pm_fr_up (by decide))
/-- the reference keeps what is thick -/
theorem M_sweep_keep : ∀ (d : Nat) (Q : pm_O → Prop), pm_V X (d + 2) 158 35 [some (.ref 82), some (.int a), some (.int b), none, none] [] (pm_S0 ++ g, MS B T n p, J) Q = pm_V X (d + 2) 158 60 [some (.ref 82), some (.int a), some (.int b), some (.int (nI 16)), none] [] (pm_S0 ++ g, MS (pm_up B 104 (fun i => if i < 16 then thT (T i) else B 104 i)) T n p, J) Q := by
  intro d Q
  have L := pm_lp0 (fun k => pm_V X (d + 2) 158 37 [some (.ref 82), some (.int a), some (.int b), some (.int (nI k)), none] [] (pm_S0 ++ g, MS (pm_up B 104 (fun i => if i < k then thT (T i) else B 104 i)) T n p, J) Q) 16 (by
    intro k hk
    have h1 : ((16 : Int32) ≤ nI k) = False := by
      rw [show (16 : Int32) = nI 16 from rfl, nI_le_l (by omega) (by omega)]
      exact eq_false (by omega)
    have hb := bad_nI (k := k) (n := 16) hk (by decide)
    have hc := nI_clamp (n := k) (by omega)
    have e : upd (fun i => if i < k then thT (T i) else B 104 i) k (thT (T k)) = (fun i => if i < k + 1 then thT (T i) else B 104 i) := by
      funext i
      rw [upd_app]
      by_cases q2 : i = k
      · subst q2; simp
      · have : (i < k + 1) = (i < k) := propext (by omega)
        simp [q2, this]
    show pm_V X (d + 2) 158 37 [some (.ref 82), some (.int a), some (.int b), some (.int (nI k)), none] [] (pm_S0 ++ g, MS (pm_up B 104 (fun i => if i < k then thT (T i) else B 104 i)) T n p, J) Q = _
    rw [e_M_sweep_37, ← e]
    simp only [e_M_sweep_38, e_M_sweep_40, e_M_sweep_43, e_M_sweep_44, e_M_sweep_47, e_M_sweep_48, e_M_sweep_49, e_M_sweep_50, e_M_sweep_53, e_M_sweep_54, e_M_sweep_57, h1, sh_r_82_33, sh_o_82, K_M_thickT hk, sh_w_104, hb, hc, MS_104, nI_1, pm_opt_some, pm_opt_none, pm_opt_if, Bool.false_eq_true, Bool.not_false, Bool.not_true, if_false, if_true, true_and, and_true, true_or, or_true, not_true_eq_false, not_false_eq_true, q10, q00, q01, q11, pk_v, pk_i, pk_l, pk_r]) 16 0 (by omega)
  have e0 : pm_up B 104 (fun i => if i < 0 then thT (T i) else B 104 i) = B := by
    simp only [Nat.not_lt_zero, if_false]
    exact pu_self
  rw [e0, nI_0] at L
  have h16 : ((16 : Int32) ≤ nI 16) = True := by decide
  simp only [e_M_sweep_35, e_M_sweep_36]
  rw [L, e_M_sweep_37]
  simp only [e_M_sweep_38, e_M_sweep_40, h16, if_true]
/-- and takes the SNOW away -/
theorem M_sweep_snow : ∀ (d : Nat) (Q : pm_O → Prop), pm_V X d 158 64 [some (.ref 82), some (.int a), some (.int b), some (.int c), none] [] (pm_S0 ++ g, MS B (rowT I 3 4 5) n p, J) Q = pm_V X d 158 85 [some (.ref 82), some (.int a), some (.int b), some (.int (nI 16)), none] [] (pm_S0 ++ g, MS B (swR I) n p, J) Q := by
  intro d Q
  have L := pm_lp0 (fun k => pm_V X d 158 66 [some (.ref 82), some (.int a), some (.int b), some (.int (nI k)), none] [] (pm_S0 ++ g, MS B (fun i => if i < k then swR I i else rowT I 3 4 5 i) n p, J) Q) 16 (by
    intro k hk
    have h1 : ((16 : Int32) ≤ nI k) = False := by
      rw [show (16 : Int32) = nI 16 from rfl, nI_le_l (by omega) (by omega)]
      exact eq_false (by omega)
    have hb := bad_nI (k := k) (n := 16) hk (by decide)
    have hc := nI_clamp (n := k) (by omega)
    have e : (fun i => if i = k then (((fun i => if i < k then swR I i else rowT I 3 4 5 i) i).1, ((fun i => if i < k then swR I i else rowT I 3 4 5 i) i).2.1, (0 : Int32)) else (fun i => if i < k then swR I i else rowT I 3 4 5 i) i) = (fun i => if i < k + 1 then swR I i else rowT I 3 4 5 i) := by
      funext i
      by_cases q2 : i = k
      · subst q2
        simp [swR, rowT]
      · have : (i < k + 1) = (i < k) := propext (by omega)
        simp [q2, this]
    show pm_V X d 158 66 [some (.ref 82), some (.int a), some (.int b), some (.int (nI k)), none] [] (pm_S0 ++ g, MS B (fun i => if i < k then swR I i else rowT I 3 4 5 i) n p, J) Q = _
    rw [e_M_sweep_66]
    simp only [e_M_sweep_67, e_M_sweep_69, e_M_sweep_72, e_M_sweep_73, e_M_sweep_76, e_M_sweep_77, e_M_sweep_78, e_M_sweep_79, e_M_sweep_82, h1, sh_r_82_30, sh_w_101, hb, hc, MS_101 hk, nI_1, pm_opt_some, pm_opt_none, pm_opt_if, Bool.false_eq_true, Bool.not_false, Bool.not_true, if_false, if_true, true_and, and_true, true_or, or_true, not_true_eq_false, not_false_eq_true, q10, q00, q01, q11, pk_v, pk_i, pk_l, pk_r]
    rw [e]) 16 0 (by omega)
  have e0 : (fun i => if i < 0 then swR I i else rowT I 3 4 5 i) = rowT I 3 4 5 := by
    funext i
    rw [if_neg (by omega)]
  have e16 : MS B (fun i => if i < 16 then swR I i else rowT I 3 4 5 i) n p = MS B (swR I) n p := MS_cg (fun k hk => by rw [if_pos hk])
  rw [e0, nI_0] at L
  have h16 : ((16 : Int32) ≤ nI 16) = True := by decide
  simp only [e_M_sweep_64, e_M_sweep_65]
  rw [L, e_M_sweep_66]
  simp only [e_M_sweep_67, e_M_sweep_69, h16, if_true, e16]
theorem M_sweep_loop {F : Nat → Int32} (h104 : B 104 = F) : ∀ (d : Nat) (Q : pm_O → Prop), pm_V X (d + 2) 158 95 [some (.ref 82), some (.int a), some (.int b), some (.int 0), some (.int 1)] [] (pm_S0 ++ g, MS B U n p, J) Q = pm_V X (d + 2) 158 95 [some (.ref 82), some (.int a), some (.int b), some (.int (nI (swF (fun c => thT (U c) - F c)))), some (.int (nI 16))] [] (pm_S0 ++ g, MS B U n p, J) Q := by
  intro d Q
  have e104 : MS B U n p 104 = F := (MS_rd (by decide)).trans h104
  have L := pm_lpI (fun k (x : Nat) => pm_V X (d + 2) 158 95 [some (.ref 82), some (.int a), some (.int b), some (.int (nI x)), some (.int (nI k))] [] (pm_S0 ++ g, MS B U n p, J) Q) (fun c best => if thT (U c) - F c ≤ thT (U best) - F best then best else c) (fun _ x => x < 16) 16 (by
    intro k x hk hx
    have h1 : ((16 : Int32) ≤ nI k) = False := by
      rw [show (16 : Int32) = nI 16 from rfl, nI_le_l (by omega) (by omega)]
      exact eq_false (by omega)
    have hb := bad_nI (k := k) (n := 16) hk (by decide)
    have hc := nI_clamp (n := k) (by omega)
    have hbx := bad_nI (k := x) (n := 16) hx (by decide)
    have hcx := nI_clamp (n := x) (by omega)
    show pm_V X (d + 2) 158 95 [some (.ref 82), some (.int a), some (.int b), some (.int (nI x)), some (.int (nI k))] [] (pm_S0 ++ g, MS B U n p, J) Q = _
    rw [e_M_sweep_95]
    simp only [e_M_sweep_0, e_M_sweep_1, e_M_sweep_2, e_M_sweep_3, e_M_sweep_4, e_M_sweep_7, e_M_sweep_10, e_M_sweep_11, e_M_sweep_12, e_M_sweep_13, e_M_sweep_14, e_M_sweep_15, e_M_sweep_17, e_M_sweep_20, e_M_sweep_23, e_M_sweep_25, e_M_sweep_26, e_M_sweep_27, e_M_sweep_30, e_M_sweep_31, e_M_sweep_32, e_M_sweep_35, e_M_sweep_36, e_M_sweep_37, e_M_sweep_38, e_M_sweep_40, e_M_sweep_43, e_M_sweep_44, e_M_sweep_47, e_M_sweep_48, e_M_sweep_49, e_M_sweep_50, e_M_sweep_53, e_M_sweep_54, e_M_sweep_57, e_M_sweep_60, e_M_sweep_61, e_M_sweep_64, e_M_sweep_65, e_M_sweep_66, e_M_sweep_67, e_M_sweep_69, e_M_sweep_72, e_M_sweep_73, e_M_sweep_76, e_M_sweep_77, e_M_sweep_78, e_M_sweep_79, e_M_sweep_82, e_M_sweep_85, e_M_sweep_86, e_M_sweep_87, e_M_sweep_90, e_M_sweep_91, e_M_sweep_92, e_M_sweep_93, e_M_sweep_97, e_M_sweep_99, e_M_sweep_102, e_M_sweep_103, e_M_sweep_105, e_M_sweep_108, e_M_sweep_109, e_M_sweep_112, e_M_sweep_114, e_M_sweep_115, e_M_sweep_116, e_M_sweep_117, e_M_sweep_118, e_M_sweep_121, e_M_sweep_122, e_M_sweep_125, e_M_sweep_126, e_M_sweep_127, e_M_sweep_128, e_M_sweep_131, e_M_sweep_133, e_M_sweep_136, e_M_sweep_137, e_M_sweep_138, e_M_sweep_141, e_M_sweep_144, e_M_sweep_145, e_M_sweep_148, e_M_sweep_149, e_M_sweep_152, e_M_sweep_153, e_M_sweep_154, e_M_sweep_157, e_M_sweep_158, e_M_sweep_161, e_M_sweep_162, e_M_sweep_163, e_M_sweep_164, h1, sh_o_82, sh_r_82_33, sh_i_104, K_M_thickT hk, K_M_thickT hx, hb, hc, hbx, hcx, e104, nI_1, pm_opt_some, pm_opt_none, pm_opt_if, Bool.false_eq_true, Bool.not_false, Bool.not_true, if_false, if_true, true_and, and_true, true_or, or_true, not_true_eq_false, not_false_eq_true, q10, q00, q01, q11, pk_v, pk_i, pk_l, pk_r]
    by_cases q : thT (U k) - F k ≤ thT (U x) - F x
    · simp only [q, pm_opt_some, pm_opt_none, pm_opt_if, Bool.false_eq_true, Bool.not_false, Bool.not_true, if_false, if_true, true_and, and_true, true_or, or_true, not_true_eq_false, not_false_eq_true, q10, q00, q01, q11, pk_v, pk_i, pk_l, pk_r]
    · simp only [q, pm_opt_some, pm_opt_none, pm_opt_if, Bool.false_eq_true, Bool.not_false, Bool.not_true, if_false, if_true, true_and, and_true, true_or, or_true, not_true_eq_false, not_false_eq_true, q10, q00, q01, q11, pk_v, pk_i, pk_l, pk_r]) (by
    intro k x hk hx
    try dsimp only
    split
    · exact hx
    · exact hk) 15 1 0 (by omega) (by decide)
  exact L
theorem swR_ok (hR : Rel I J) : Tok (swR I) := by
  intro k hk
  have := Rel_Tok hR k hk
  exact ⟨this.1, this.2.1, by rw [show (swR I k).2.2 = 0 from rfl, k0]; omega⟩
theorem Pair_sweep (hR : Rel I J) : Pair X 15 158 [.int a, .int b] g I J := by
  by_cases hb : 0 ≤ b ∧ b ≤ 1
  · by_cases ha : 1 ≤ a ∧ a ≤ 99
    · have h0 : 0 ≤ a ∧ a ≤ 99 := by
        refine ⟨?_, ha.2⟩
        have := ha.1
        rw [i_le, k1] at this
        rw [i_le, k0]
        omega
      obtain ⟨m, hm, rfl⟩ := in_of (m := 99) rfl h0
      refine Pair_q (v := .int (swV (ahT I 0 m) (hrT I (hwI I) 0 (hN I) m (swR I)) b)) hR ?_ (fun I1 h1 hR1 => ?_)
      · refine ⟨AA I (ahT I 0 m) (hrT I (hwI I) 0 (hN I) m (swR I)), AA_sfr, K50 fun d' => ?_⟩
        have kh1 := fun (d : Nat) (P : pm_O → Prop) (U : Nat → T3) => K_hr1 (X := X) (d := d) (P := P) (g := g) (T := rowT I 3 4 5) (U := U) (n := m) (heat := 0) hR (by omega)
        rw [show hrT I (hwI I) 0 (hN I) m (rowT I 3 4 5) = ahT I 0 m from rfl] at kh1
        have kh2 := fun (d : Nat) (P : pm_O → Prop) (T : Nat → T3) => K_hr2 (X := X) (d := d) (P := P) (g := g) (T := T) (U := swR I) (n := m) (heat := 0) hR (by omega)
        generalize hrT I (hwI I) 0 (hN I) m (swR I) = U at kh2 ⊢
        generalize ahT I 0 m = T at kh1 ⊢
        have a1 := fun (d : Nat) (P : pm_O → Prop) => K_AA1 (X := X) (d := d) (P := P) (g := g) (I := I) (J := J) (T := T) (U := U) (j := 0) (by decide)
        have a2 := fun (d : Nat) (P : pm_O → Prop) => K_AA2 (X := X) (d := d) (P := P) (g := g) (I := I) (J := J) (T := T) (U := U) (j := 0) (by decide)
        simp only [nI_0] at a1 a2
        obtain ⟨l6, hL⟩ := B_sweep_loop (X := X) (g := g) (I := I) (J := J) (T := T) (U := U) (a := nI m) (b := b) (d' + 47) (fun q => q = (some (.int (swV T U b)), (pm_S0 ++ g, AA I T U, J)))
        have h16 : ((16 : Int32) ≤ nI 16) = True := by decide
        show pm_V X (d' + 49) 15 0 [some (.ref 0), some (.int (nI m)), some (.int b), none, none, none, none] [] (pm_S0 ++ g, I, J) _
        simp only [e_B_sweep_0, e_B_sweep_1, e_B_sweep_2, e_B_sweep_3, e_B_sweep_6, e_B_sweep_9, e_B_sweep_10, e_B_sweep_11, e_B_sweep_12, e_B_sweep_13, e_B_sweep_15, e_B_sweep_18, e_B_sweep_21, e_B_sweep_23, e_B_sweep_24, e_B_sweep_25, e_B_sweep_28, e_B_sweep_29, e_B_sweep_32, e_B_sweep_35, e_B_sweep_38, e_B_sweep_39, e_B_sweep_42, e_B_sweep_43, e_B_sweep_46, e_B_sweep_49, e_B_sweep_53, e_B_sweep_55, e_B_sweep_57, e_B_sweep_60, e_B_sweep_61, e_B_sweep_64, e_B_sweep_67, e_B_sweep_68, e_B_sweep_69, e_B_sweep_70, e_B_sweep_73, e_B_sweep_77, e_B_sweep_78, e_B_sweep_81, e_B_sweep_82, e_B_sweep_83, e_B_sweep_86, e_B_sweep_87, e_B_sweep_88, e_B_sweep_91, e_B_sweep_92, e_B_sweep_93, e_B_sweep_96, e_B_sweep_97, e_B_sweep_98, e_B_sweep_99, e_B_sweep_102, e_B_sweep_103, e_B_sweep_106, e_B_sweep_107, e_B_sweep_110, e_B_sweep_111, e_B_sweep_114, e_B_sweep_115, e_B_sweep_117, e_B_sweep_118, e_B_sweep_122, e_B_sweep_124, e_B_sweep_127, e_B_sweep_128, e_B_sweep_131, e_B_sweep_133, e_B_sweep_136, e_B_sweep_137, e_B_sweep_140, e_B_sweep_142, e_B_sweep_145, e_B_sweep_146, e_B_sweep_148, e_B_sweep_150, e_B_sweep_152, e_B_sweep_155, e_B_sweep_157, e_B_sweep_158, e_B_sweep_160, e_B_sweep_162, e_B_sweep_165, e_B_sweep_168, e_B_sweep_169, e_B_sweep_172, e_B_sweep_173, e_B_sweep_176, e_B_sweep_178, K_B_isWithin, eq_true hb, eq_true ha, sh_o_0, sh_o_2, sh_o_35, sh_o_39, sh_r_0_0, sh_r_0_10, sh_r_0_11, sh_r_1_0, K_cpA, K_cp2, pm_opt_some, pm_opt_none, pm_opt_if, Bool.false_eq_true, Bool.not_false, Bool.not_true, if_false, if_true, true_and, and_true, true_or, or_true, not_true_eq_false, not_false_eq_true, q10, q00, q01, q11, pk_v, pk_i, pk_l, pk_r]
        rw [B_sweep_snow, e_B_sweep_76]
        simp only [e_B_sweep_0, e_B_sweep_1, e_B_sweep_2, e_B_sweep_3, e_B_sweep_6, e_B_sweep_9, e_B_sweep_10, e_B_sweep_11, e_B_sweep_12, e_B_sweep_13, e_B_sweep_15, e_B_sweep_18, e_B_sweep_21, e_B_sweep_23, e_B_sweep_24, e_B_sweep_25, e_B_sweep_28, e_B_sweep_29, e_B_sweep_32, e_B_sweep_35, e_B_sweep_38, e_B_sweep_39, e_B_sweep_42, e_B_sweep_43, e_B_sweep_46, e_B_sweep_49, e_B_sweep_53, e_B_sweep_55, e_B_sweep_57, e_B_sweep_60, e_B_sweep_61, e_B_sweep_64, e_B_sweep_67, e_B_sweep_68, e_B_sweep_69, e_B_sweep_70, e_B_sweep_73, e_B_sweep_77, e_B_sweep_78, e_B_sweep_81, e_B_sweep_82, e_B_sweep_83, e_B_sweep_86, e_B_sweep_87, e_B_sweep_88, e_B_sweep_91, e_B_sweep_92, e_B_sweep_93, e_B_sweep_96, e_B_sweep_97, e_B_sweep_98, e_B_sweep_99, e_B_sweep_102, e_B_sweep_103, e_B_sweep_106, e_B_sweep_107, e_B_sweep_110, e_B_sweep_111, e_B_sweep_114, e_B_sweep_115, e_B_sweep_117, e_B_sweep_118, e_B_sweep_122, e_B_sweep_124, e_B_sweep_127, e_B_sweep_128, e_B_sweep_131, e_B_sweep_133, e_B_sweep_136, e_B_sweep_137, e_B_sweep_140, e_B_sweep_142, e_B_sweep_145, e_B_sweep_146, e_B_sweep_148, e_B_sweep_150, e_B_sweep_152, e_B_sweep_155, e_B_sweep_157, e_B_sweep_158, e_B_sweep_160, e_B_sweep_162, e_B_sweep_165, e_B_sweep_168, e_B_sweep_169, e_B_sweep_172, e_B_sweep_173, e_B_sweep_176, e_B_sweep_178, sh_o_0, sh_o_35, sh_o_39, sh_r_0_10, sh_r_0_11, kh1, kh2, a1, a2, pm_opt_some, pm_opt_none, pm_opt_if, Bool.false_eq_true, Bool.not_false, Bool.not_true, if_false, if_true, true_and, and_true, true_or, or_true, not_true_eq_false, not_false_eq_true, q10, q00, q01, q11, pk_v, pk_i, pk_l, pk_r]
        refine Eq.mpr hL ?_
        rw [e_B_sweep_120]
        simp only [e_B_sweep_0, e_B_sweep_1, e_B_sweep_2, e_B_sweep_3, e_B_sweep_6, e_B_sweep_9, e_B_sweep_10, e_B_sweep_11, e_B_sweep_12, e_B_sweep_13, e_B_sweep_15, e_B_sweep_18, e_B_sweep_21, e_B_sweep_23, e_B_sweep_24, e_B_sweep_25, e_B_sweep_28, e_B_sweep_29, e_B_sweep_32, e_B_sweep_35, e_B_sweep_38, e_B_sweep_39, e_B_sweep_42, e_B_sweep_43, e_B_sweep_46, e_B_sweep_49, e_B_sweep_53, e_B_sweep_55, e_B_sweep_57, e_B_sweep_60, e_B_sweep_61, e_B_sweep_64, e_B_sweep_67, e_B_sweep_68, e_B_sweep_69, e_B_sweep_70, e_B_sweep_73, e_B_sweep_77, e_B_sweep_78, e_B_sweep_81, e_B_sweep_82, e_B_sweep_83, e_B_sweep_86, e_B_sweep_87, e_B_sweep_88, e_B_sweep_91, e_B_sweep_92, e_B_sweep_93, e_B_sweep_96, e_B_sweep_97, e_B_sweep_98, e_B_sweep_99, e_B_sweep_102, e_B_sweep_103, e_B_sweep_106, e_B_sweep_107, e_B_sweep_110, e_B_sweep_111, e_B_sweep_114, e_B_sweep_115, e_B_sweep_117, e_B_sweep_118, e_B_sweep_122, e_B_sweep_124, e_B_sweep_127, e_B_sweep_128, e_B_sweep_131, e_B_sweep_133, e_B_sweep_136, e_B_sweep_137, e_B_sweep_140, e_B_sweep_142, e_B_sweep_145, e_B_sweep_146, e_B_sweep_148, e_B_sweep_150, e_B_sweep_152, e_B_sweep_155, e_B_sweep_157, e_B_sweep_158, e_B_sweep_160, e_B_sweep_162, e_B_sweep_165, e_B_sweep_168, e_B_sweep_169, e_B_sweep_172, e_B_sweep_173, e_B_sweep_176, e_B_sweep_178, h16, pm_opt_some, pm_opt_none, pm_opt_if, Bool.false_eq_true, Bool.not_false, Bool.not_true, if_false, if_true, true_and, and_true, true_or, or_true, not_true_eq_false, not_false_eq_true, q10, q00, q01, q11, pk_v, pk_i, pk_l, pk_r]
        unfold swV
        by_cases q0 : b = 0
        · simp only [q0, pm_opt_some, pm_opt_none, pm_opt_if, Bool.false_eq_true, Bool.not_false, Bool.not_true, if_false, if_true, true_and, and_true, true_or, or_true, not_true_eq_false, not_false_eq_true, q10, q00, q01, q11, pk_v, pk_i, pk_l, pk_r]
        · simp only [q0, pm_opt_some, pm_opt_none, pm_opt_if, Bool.false_eq_true, Bool.not_false, Bool.not_true, if_false, if_true, true_and, and_true, true_or, or_true, not_true_eq_false, not_false_eq_true, q10, q00, q01, q11, pk_v, pk_i, pk_l, pk_r]
      · obtain ⟨p1, hp1⟩ := M_goH (X := X) (g := g) (p := I1 98) (m := m) (h0 := hN I) (T := rowT I 3 4 5) (sfr_tr h1 nL_sfr) (Rel_s nL_sfr hR1) nL_27 (Rel_Tok hR) (by omega)
        rw [show hrT I (hwI I) 0 (hN I) m (rowT I 3 4 5) = ahT I 0 m from rfl] at hp1
        generalize ahT I 0 m = T at hp1 ⊢
        have hs2 : sfr I1 (MS (pm_up (nL I1) 104 (fun i => if i < 16 then thT (T i) else nL I1 104 i)) T (nI (hN I + m)) p1) := sfr_tr nL_sfr (sfr_tr sfr_104 MS_sfr)
        have r104 : MS (pm_up (nL I1) 104 (fun i => if i < 16 then thT (T i) else nL I1 104 i)) T (nI (hN I + m)) p1 104 = (fun i => if i < 16 then thT (T i) else nL I1 104 i) := by rw [MS_rd (by decide), pu_eq]
        have as1 := fun (d : Nat) (P : pm_O → Prop) => M_asIs (X := X) (d := d) (P := P) (g := g) hR1 h1
        have as2 := fun (d : Nat) (P : pm_O → Prop) => M_asIs (X := X) (d := d) (P := P) (g := g) (Rel_s hs2 hR1) (sfr_tr h1 hs2)
        have kk := fun (d : Nat) (Q : pm_O → Prop) => M_sweep_keep (X := X) (g := g) (J := J) (B := nL I1) (T := T) (n := nI (hN I + m)) (p := p1) (a := nI m) (b := b) d Q
        generalize MS (pm_up (nL I1) 104 (fun i => if i < 16 then thT (T i) else nL I1 104 i)) T (nI (hN I + m)) p1 = I2 at hs2 r104 as2 kk
        obtain ⟨p2, hp2⟩ := M_goH (X := X) (g := g) (p := I2 98) (m := m) (h0 := hN I) (T := swR I) (sfr_tr h1 (sfr_tr hs2 nL_sfr)) (Rel_s nL_sfr (Rel_s hs2 hR1)) nL_27 (swR_ok hR) (by omega)
        generalize hrT I (hwI I) 0 (hN I) m (swR I) = U at hp2 ⊢
        have r104' : nL I2 104 = (fun i => if i < 16 then thT (T i) else nL I1 104 i) := by
          unfold nL at r104 ⊢
          rw [pw_ne (by decide)]
          exact r104
        refine ⟨MS (nL I2) U (nI (hN I + m)) p2, sfr_tr hs2 (sfr_tr nL_sfr MS_sfr), K50 fun d' => ?_⟩
        have hL := M_sweep_loop (X := X) (g := g) (J := J) (B := nL I2) (U := U) (n := nI (hN I + m)) (p := p2) (a := nI m) (b := b) r104' (d' + 47)
        have hF : swF (fun c => thT (U c) - (fun i => if i < 16 then thT (T i) else nL I1 104 i) c) = swF (swD T U) := swF_cg (fun c hc => by
          show thT (U c) - (if c < 16 then thT (T c) else nL I1 104 c) = _
          rw [if_pos hc]
          rfl)
        rw [hF] at hL
        have h16 : ((16 : Int32) ≤ nI 16) = True := by decide
        show pm_V X (d' + 49) 158 0 [some (.ref 82), some (.int (nI m)), some (.int b), none, none] [] (pm_S0 ++ g, I1, J) _
        simp only [e_M_sweep_0, e_M_sweep_1, e_M_sweep_2, e_M_sweep_3, e_M_sweep_4, e_M_sweep_7, e_M_sweep_10, e_M_sweep_11, e_M_sweep_12, e_M_sweep_13, e_M_sweep_14, e_M_sweep_15, e_M_sweep_17, e_M_sweep_20, e_M_sweep_23, e_M_sweep_25, e_M_sweep_26, e_M_sweep_27, e_M_sweep_30, e_M_sweep_31, e_M_sweep_32, e_M_sweep_36, e_M_sweep_38, e_M_sweep_40, e_M_sweep_43, e_M_sweep_44, e_M_sweep_47, e_M_sweep_48, e_M_sweep_49, e_M_sweep_50, e_M_sweep_53, e_M_sweep_54, e_M_sweep_57, e_M_sweep_61, e_M_sweep_65, e_M_sweep_67, e_M_sweep_69, e_M_sweep_72, e_M_sweep_73, e_M_sweep_76, e_M_sweep_77, e_M_sweep_78, e_M_sweep_79, e_M_sweep_82, e_M_sweep_86, e_M_sweep_87, e_M_sweep_90, e_M_sweep_91, e_M_sweep_92, e_M_sweep_93, e_M_sweep_97, e_M_sweep_99, e_M_sweep_102, e_M_sweep_103, e_M_sweep_105, e_M_sweep_108, e_M_sweep_109, e_M_sweep_112, e_M_sweep_114, e_M_sweep_115, e_M_sweep_116, e_M_sweep_117, e_M_sweep_118, e_M_sweep_121, e_M_sweep_122, e_M_sweep_125, e_M_sweep_126, e_M_sweep_127, e_M_sweep_128, e_M_sweep_131, e_M_sweep_133, e_M_sweep_136, e_M_sweep_137, e_M_sweep_138, e_M_sweep_141, e_M_sweep_144, e_M_sweep_145, e_M_sweep_148, e_M_sweep_149, e_M_sweep_152, e_M_sweep_153, e_M_sweep_154, e_M_sweep_157, e_M_sweep_158, e_M_sweep_161, e_M_sweep_162, e_M_sweep_163, e_M_sweep_164, K_M_in, eq_true hb, eq_true ha, sh_o_82, as1, hp1, pm_opt_some, pm_opt_none, pm_opt_if, Bool.false_eq_true, Bool.not_false, Bool.not_true, if_false, if_true, true_and, and_true, true_or, or_true, not_true_eq_false, not_false_eq_true, q10, q00, q01, q11, pk_v, pk_i, pk_l, pk_r]
        show pm_V X (d' + 47 + 2) 158 35 _ _ _ _
        rw [kk]
        rw [e_M_sweep_60]
        simp only [e_M_sweep_0, e_M_sweep_1, e_M_sweep_2, e_M_sweep_3, e_M_sweep_4, e_M_sweep_7, e_M_sweep_10, e_M_sweep_11, e_M_sweep_12, e_M_sweep_13, e_M_sweep_14, e_M_sweep_15, e_M_sweep_17, e_M_sweep_20, e_M_sweep_23, e_M_sweep_25, e_M_sweep_26, e_M_sweep_27, e_M_sweep_30, e_M_sweep_31, e_M_sweep_32, e_M_sweep_36, e_M_sweep_38, e_M_sweep_40, e_M_sweep_43, e_M_sweep_44, e_M_sweep_47, e_M_sweep_48, e_M_sweep_49, e_M_sweep_50, e_M_sweep_53, e_M_sweep_54, e_M_sweep_57, e_M_sweep_61, e_M_sweep_65, e_M_sweep_67, e_M_sweep_69, e_M_sweep_72, e_M_sweep_73, e_M_sweep_76, e_M_sweep_77, e_M_sweep_78, e_M_sweep_79, e_M_sweep_82, e_M_sweep_86, e_M_sweep_87, e_M_sweep_90, e_M_sweep_91, e_M_sweep_92, e_M_sweep_93, e_M_sweep_97, e_M_sweep_99, e_M_sweep_102, e_M_sweep_103, e_M_sweep_105, e_M_sweep_108, e_M_sweep_109, e_M_sweep_112, e_M_sweep_114, e_M_sweep_115, e_M_sweep_116, e_M_sweep_117, e_M_sweep_118, e_M_sweep_121, e_M_sweep_122, e_M_sweep_125, e_M_sweep_126, e_M_sweep_127, e_M_sweep_128, e_M_sweep_131, e_M_sweep_133, e_M_sweep_136, e_M_sweep_137, e_M_sweep_138, e_M_sweep_141, e_M_sweep_144, e_M_sweep_145, e_M_sweep_148, e_M_sweep_149, e_M_sweep_152, e_M_sweep_153, e_M_sweep_154, e_M_sweep_157, e_M_sweep_158, e_M_sweep_161, e_M_sweep_162, e_M_sweep_163, e_M_sweep_164, sh_o_82, as2, pm_opt_some, pm_opt_none, pm_opt_if, Bool.false_eq_true, Bool.not_false, Bool.not_true, if_false, if_true, true_and, and_true, true_or, or_true, not_true_eq_false, not_false_eq_true, q10, q00, q01, q11, pk_v, pk_i, pk_l, pk_r]
        rw [M_sweep_snow, e_M_sweep_85]
        simp only [e_M_sweep_0, e_M_sweep_1, e_M_sweep_2, e_M_sweep_3, e_M_sweep_4, e_M_sweep_7, e_M_sweep_10, e_M_sweep_11, e_M_sweep_12, e_M_sweep_13, e_M_sweep_14, e_M_sweep_15, e_M_sweep_17, e_M_sweep_20, e_M_sweep_23, e_M_sweep_25, e_M_sweep_26, e_M_sweep_27, e_M_sweep_30, e_M_sweep_31, e_M_sweep_32, e_M_sweep_36, e_M_sweep_38, e_M_sweep_40, e_M_sweep_43, e_M_sweep_44, e_M_sweep_47, e_M_sweep_48, e_M_sweep_49, e_M_sweep_50, e_M_sweep_53, e_M_sweep_54, e_M_sweep_57, e_M_sweep_61, e_M_sweep_65, e_M_sweep_67, e_M_sweep_69, e_M_sweep_72, e_M_sweep_73, e_M_sweep_76, e_M_sweep_77, e_M_sweep_78, e_M_sweep_79, e_M_sweep_82, e_M_sweep_86, e_M_sweep_87, e_M_sweep_90, e_M_sweep_91, e_M_sweep_92, e_M_sweep_93, e_M_sweep_97, e_M_sweep_99, e_M_sweep_102, e_M_sweep_103, e_M_sweep_105, e_M_sweep_108, e_M_sweep_109, e_M_sweep_112, e_M_sweep_114, e_M_sweep_115, e_M_sweep_116, e_M_sweep_117, e_M_sweep_118, e_M_sweep_121, e_M_sweep_122, e_M_sweep_125, e_M_sweep_126, e_M_sweep_127, e_M_sweep_128, e_M_sweep_131, e_M_sweep_133, e_M_sweep_136, e_M_sweep_137, e_M_sweep_138, e_M_sweep_141, e_M_sweep_144, e_M_sweep_145, e_M_sweep_148, e_M_sweep_149, e_M_sweep_152, e_M_sweep_153, e_M_sweep_154, e_M_sweep_157, e_M_sweep_158, e_M_sweep_161, e_M_sweep_162, e_M_sweep_163, e_M_sweep_164, sh_o_82, hp2, pm_opt_some, pm_opt_none, pm_opt_if, Bool.false_eq_true, Bool.not_false, Bool.not_true, if_false, if_true, true_and, and_true, true_or, or_true, not_true_eq_false, not_false_eq_true, q10, q00, q01, q11, pk_v, pk_i, pk_l, pk_r]
        rw [hL, e_M_sweep_95]
        have hbx := bad_nI (k := swF (swD T U)) (n := 16) swF_lt (by decide)
        have hcx := nI_clamp (n := swF (swD T U)) (by have := swF_lt (f := swD T U); omega)
        have ex : MS (nL I2) U (nI (hN I + m)) p2 104 (swF (swD T U)) = thT (T (swF (swD T U))) := by
          rw [MS_rd (by decide), r104']
          exact if_pos swF_lt
        simp only [e_M_sweep_0, e_M_sweep_1, e_M_sweep_2, e_M_sweep_3, e_M_sweep_4, e_M_sweep_7, e_M_sweep_10, e_M_sweep_11, e_M_sweep_12, e_M_sweep_13, e_M_sweep_14, e_M_sweep_15, e_M_sweep_17, e_M_sweep_20, e_M_sweep_23, e_M_sweep_25, e_M_sweep_26, e_M_sweep_27, e_M_sweep_30, e_M_sweep_31, e_M_sweep_32, e_M_sweep_36, e_M_sweep_38, e_M_sweep_40, e_M_sweep_43, e_M_sweep_44, e_M_sweep_47, e_M_sweep_48, e_M_sweep_49, e_M_sweep_50, e_M_sweep_53, e_M_sweep_54, e_M_sweep_57, e_M_sweep_61, e_M_sweep_65, e_M_sweep_67, e_M_sweep_69, e_M_sweep_72, e_M_sweep_73, e_M_sweep_76, e_M_sweep_77, e_M_sweep_78, e_M_sweep_79, e_M_sweep_82, e_M_sweep_86, e_M_sweep_87, e_M_sweep_90, e_M_sweep_91, e_M_sweep_92, e_M_sweep_93, e_M_sweep_97, e_M_sweep_99, e_M_sweep_102, e_M_sweep_103, e_M_sweep_105, e_M_sweep_108, e_M_sweep_109, e_M_sweep_112, e_M_sweep_114, e_M_sweep_115, e_M_sweep_116, e_M_sweep_117, e_M_sweep_118, e_M_sweep_121, e_M_sweep_122, e_M_sweep_125, e_M_sweep_126, e_M_sweep_127, e_M_sweep_128, e_M_sweep_131, e_M_sweep_133, e_M_sweep_136, e_M_sweep_137, e_M_sweep_138, e_M_sweep_141, e_M_sweep_144, e_M_sweep_145, e_M_sweep_148, e_M_sweep_149, e_M_sweep_152, e_M_sweep_153, e_M_sweep_154, e_M_sweep_157, e_M_sweep_158, e_M_sweep_161, e_M_sweep_162, e_M_sweep_163, e_M_sweep_164, h16, pm_opt_some, pm_opt_none, pm_opt_if, Bool.false_eq_true, Bool.not_false, Bool.not_true, if_false, if_true, true_and, and_true, true_or, or_true, not_true_eq_false, not_false_eq_true, q10, q00, q01, q11, pk_v, pk_i, pk_l, pk_r]
        unfold swV
        by_cases q0 : b = 0
        · simp only [q0, pm_opt_some, pm_opt_none, pm_opt_if, Bool.false_eq_true, Bool.not_false, Bool.not_true, if_false, if_true, true_and, and_true, true_or, or_true, not_true_eq_false, not_false_eq_true, q10, q00, q01, q11, pk_v, pk_i, pk_l, pk_r]
        · simp only [e_M_sweep_0, e_M_sweep_1, e_M_sweep_2, e_M_sweep_3, e_M_sweep_4, e_M_sweep_7, e_M_sweep_10, e_M_sweep_11, e_M_sweep_12, e_M_sweep_13, e_M_sweep_14, e_M_sweep_15, e_M_sweep_17, e_M_sweep_20, e_M_sweep_23, e_M_sweep_25, e_M_sweep_26, e_M_sweep_27, e_M_sweep_30, e_M_sweep_31, e_M_sweep_32, e_M_sweep_36, e_M_sweep_38, e_M_sweep_40, e_M_sweep_43, e_M_sweep_44, e_M_sweep_47, e_M_sweep_48, e_M_sweep_49, e_M_sweep_50, e_M_sweep_53, e_M_sweep_54, e_M_sweep_57, e_M_sweep_61, e_M_sweep_65, e_M_sweep_67, e_M_sweep_69, e_M_sweep_72, e_M_sweep_73, e_M_sweep_76, e_M_sweep_77, e_M_sweep_78, e_M_sweep_79, e_M_sweep_82, e_M_sweep_86, e_M_sweep_87, e_M_sweep_90, e_M_sweep_91, e_M_sweep_92, e_M_sweep_93, e_M_sweep_97, e_M_sweep_99, e_M_sweep_102, e_M_sweep_103, e_M_sweep_105, e_M_sweep_108, e_M_sweep_109, e_M_sweep_112, e_M_sweep_114, e_M_sweep_115, e_M_sweep_116, e_M_sweep_117, e_M_sweep_118, e_M_sweep_121, e_M_sweep_122, e_M_sweep_125, e_M_sweep_126, e_M_sweep_127, e_M_sweep_128, e_M_sweep_131, e_M_sweep_133, e_M_sweep_136, e_M_sweep_137, e_M_sweep_138, e_M_sweep_141, e_M_sweep_144, e_M_sweep_145, e_M_sweep_148, e_M_sweep_149, e_M_sweep_152, e_M_sweep_153, e_M_sweep_154, e_M_sweep_157, e_M_sweep_158, e_M_sweep_161, e_M_sweep_162, e_M_sweep_163, e_M_sweep_164, q0, sh_o_82, K_M_thickT swF_lt, sh_r_82_33, sh_i_104, hbx, hcx, ex, pm_opt_some, pm_opt_none, pm_opt_if, Bool.false_eq_true, Bool.not_false, Bool.not_true, if_false, if_true, true_and, and_true, true_or, or_true, not_true_eq_false, not_false_eq_true, q10, q00, q01, q11, pk_v, pk_i, pk_l, pk_r]
          rfl
    · exact Pair_q (v := .int (-2)) hR ⟨I, sfr_rf, K50 fun d' => by { show pm_V X (d' + 49) 15 0 [some (.ref 0), some (.int a), some (.int b), none, none, none, none] [] (pm_S0 ++ g, I, J) _; simp only [e_B_sweep_0, e_B_sweep_1, e_B_sweep_2, e_B_sweep_3, e_B_sweep_6, e_B_sweep_9, e_B_sweep_10, e_B_sweep_11, e_B_sweep_12, e_B_sweep_13, e_B_sweep_15, e_B_sweep_18, e_B_sweep_21, e_B_sweep_23, e_B_sweep_24, e_B_sweep_25, e_B_sweep_28, e_B_sweep_29, e_B_sweep_32, e_B_sweep_35, e_B_sweep_38, e_B_sweep_39, e_B_sweep_42, e_B_sweep_43, e_B_sweep_46, e_B_sweep_49, e_B_sweep_52, e_B_sweep_53, e_B_sweep_54, e_B_sweep_55, e_B_sweep_57, e_B_sweep_60, e_B_sweep_61, e_B_sweep_64, e_B_sweep_67, e_B_sweep_68, e_B_sweep_69, e_B_sweep_70, e_B_sweep_73, e_B_sweep_76, e_B_sweep_77, e_B_sweep_78, e_B_sweep_81, e_B_sweep_82, e_B_sweep_83, e_B_sweep_86, e_B_sweep_87, e_B_sweep_88, e_B_sweep_91, e_B_sweep_92, e_B_sweep_93, e_B_sweep_96, e_B_sweep_97, e_B_sweep_98, e_B_sweep_99, e_B_sweep_102, e_B_sweep_103, e_B_sweep_106, e_B_sweep_107, e_B_sweep_110, e_B_sweep_111, e_B_sweep_114, e_B_sweep_115, e_B_sweep_117, e_B_sweep_118, e_B_sweep_120, e_B_sweep_122, e_B_sweep_124, e_B_sweep_127, e_B_sweep_128, e_B_sweep_131, e_B_sweep_133, e_B_sweep_136, e_B_sweep_137, e_B_sweep_140, e_B_sweep_142, e_B_sweep_145, e_B_sweep_146, e_B_sweep_148, e_B_sweep_150, e_B_sweep_152, e_B_sweep_155, e_B_sweep_157, e_B_sweep_158, e_B_sweep_160, e_B_sweep_162, e_B_sweep_165, e_B_sweep_168, e_B_sweep_169, e_B_sweep_172, e_B_sweep_173, e_B_sweep_176, e_B_sweep_178, K_B_isCell, K_B_isWithin, K_B_isTape, K_B_isKind, eq_true hb, eq_false ha, pm_opt_some, pm_opt_none, pm_opt_if, Bool.false_eq_true, Bool.not_false, Bool.not_true, if_false, if_true, true_and, and_true, true_or, or_true, not_true_eq_false, not_false_eq_true, q10, q00, q01, q11, pk_v, pk_i, pk_l, pk_r] }⟩ (fun I1 h1 hR1 => ⟨I1, sfr_rf, K50 fun d' => by { show pm_V X (d' + 49) 158 0 [some (.ref 82), some (.int a), some (.int b), none, none] [] (pm_S0 ++ g, I1, J) _; simp only [e_M_sweep_0, e_M_sweep_1, e_M_sweep_2, e_M_sweep_3, e_M_sweep_4, e_M_sweep_7, e_M_sweep_10, e_M_sweep_11, e_M_sweep_12, e_M_sweep_13, e_M_sweep_14, e_M_sweep_15, e_M_sweep_17, e_M_sweep_20, e_M_sweep_23, e_M_sweep_25, e_M_sweep_26, e_M_sweep_27, e_M_sweep_30, e_M_sweep_31, e_M_sweep_32, e_M_sweep_35, e_M_sweep_36, e_M_sweep_37, e_M_sweep_38, e_M_sweep_40, e_M_sweep_43, e_M_sweep_44, e_M_sweep_47, e_M_sweep_48, e_M_sweep_49, e_M_sweep_50, e_M_sweep_53, e_M_sweep_54, e_M_sweep_57, e_M_sweep_60, e_M_sweep_61, e_M_sweep_64, e_M_sweep_65, e_M_sweep_66, e_M_sweep_67, e_M_sweep_69, e_M_sweep_72, e_M_sweep_73, e_M_sweep_76, e_M_sweep_77, e_M_sweep_78, e_M_sweep_79, e_M_sweep_82, e_M_sweep_85, e_M_sweep_86, e_M_sweep_87, e_M_sweep_90, e_M_sweep_91, e_M_sweep_92, e_M_sweep_93, e_M_sweep_95, e_M_sweep_97, e_M_sweep_99, e_M_sweep_102, e_M_sweep_103, e_M_sweep_105, e_M_sweep_108, e_M_sweep_109, e_M_sweep_112, e_M_sweep_114, e_M_sweep_115, e_M_sweep_116, e_M_sweep_117, e_M_sweep_118, e_M_sweep_121, e_M_sweep_122, e_M_sweep_125, e_M_sweep_126, e_M_sweep_127, e_M_sweep_128, e_M_sweep_131, e_M_sweep_133, e_M_sweep_136, e_M_sweep_137, e_M_sweep_138, e_M_sweep_141, e_M_sweep_144, e_M_sweep_145, e_M_sweep_148, e_M_sweep_149, e_M_sweep_152, e_M_sweep_153, e_M_sweep_154, e_M_sweep_157, e_M_sweep_158, e_M_sweep_161, e_M_sweep_162, e_M_sweep_163, e_M_sweep_164, sh_o_82, K_M_isCell, K_M_in, K_M_isTape, eq_true hb, eq_false ha, pm_opt_some, pm_opt_none, pm_opt_if, Bool.false_eq_true, Bool.not_false, Bool.not_true, if_false, if_true, true_and, and_true, true_or, or_true, not_true_eq_false, not_false_eq_true, q10, q00, q01, q11, pk_v, pk_i, pk_l, pk_r] }⟩)
  · exact Pair_q (v := .int (-1)) hR ⟨I, sfr_rf, K50 fun d' => by { show pm_V X (d' + 49) 15 0 [some (.ref 0), some (.int a), some (.int b), none, none, none, none] [] (pm_S0 ++ g, I, J) _; simp only [e_B_sweep_0, e_B_sweep_1, e_B_sweep_2, e_B_sweep_3, e_B_sweep_6, e_B_sweep_9, e_B_sweep_10, e_B_sweep_11, e_B_sweep_12, e_B_sweep_13, e_B_sweep_15, e_B_sweep_18, e_B_sweep_21, e_B_sweep_23, e_B_sweep_24, e_B_sweep_25, e_B_sweep_28, e_B_sweep_29, e_B_sweep_32, e_B_sweep_35, e_B_sweep_38, e_B_sweep_39, e_B_sweep_42, e_B_sweep_43, e_B_sweep_46, e_B_sweep_49, e_B_sweep_52, e_B_sweep_53, e_B_sweep_54, e_B_sweep_55, e_B_sweep_57, e_B_sweep_60, e_B_sweep_61, e_B_sweep_64, e_B_sweep_67, e_B_sweep_68, e_B_sweep_69, e_B_sweep_70, e_B_sweep_73, e_B_sweep_76, e_B_sweep_77, e_B_sweep_78, e_B_sweep_81, e_B_sweep_82, e_B_sweep_83, e_B_sweep_86, e_B_sweep_87, e_B_sweep_88, e_B_sweep_91, e_B_sweep_92, e_B_sweep_93, e_B_sweep_96, e_B_sweep_97, e_B_sweep_98, e_B_sweep_99, e_B_sweep_102, e_B_sweep_103, e_B_sweep_106, e_B_sweep_107, e_B_sweep_110, e_B_sweep_111, e_B_sweep_114, e_B_sweep_115, e_B_sweep_117, e_B_sweep_118, e_B_sweep_120, e_B_sweep_122, e_B_sweep_124, e_B_sweep_127, e_B_sweep_128, e_B_sweep_131, e_B_sweep_133, e_B_sweep_136, e_B_sweep_137, e_B_sweep_140, e_B_sweep_142, e_B_sweep_145, e_B_sweep_146, e_B_sweep_148, e_B_sweep_150, e_B_sweep_152, e_B_sweep_155, e_B_sweep_157, e_B_sweep_158, e_B_sweep_160, e_B_sweep_162, e_B_sweep_165, e_B_sweep_168, e_B_sweep_169, e_B_sweep_172, e_B_sweep_173, e_B_sweep_176, e_B_sweep_178, K_B_isCell, K_B_isWithin, K_B_isTape, K_B_isKind, eq_false hb, pm_opt_some, pm_opt_none, pm_opt_if, Bool.false_eq_true, Bool.not_false, Bool.not_true, if_false, if_true, true_and, and_true, true_or, or_true, not_true_eq_false, not_false_eq_true, q10, q00, q01, q11, pk_v, pk_i, pk_l, pk_r] }⟩ (fun I1 h1 hR1 => ⟨I1, sfr_rf, K50 fun d' => by { show pm_V X (d' + 49) 158 0 [some (.ref 82), some (.int a), some (.int b), none, none] [] (pm_S0 ++ g, I1, J) _; simp only [e_M_sweep_0, e_M_sweep_1, e_M_sweep_2, e_M_sweep_3, e_M_sweep_4, e_M_sweep_7, e_M_sweep_10, e_M_sweep_11, e_M_sweep_12, e_M_sweep_13, e_M_sweep_14, e_M_sweep_15, e_M_sweep_17, e_M_sweep_20, e_M_sweep_23, e_M_sweep_25, e_M_sweep_26, e_M_sweep_27, e_M_sweep_30, e_M_sweep_31, e_M_sweep_32, e_M_sweep_35, e_M_sweep_36, e_M_sweep_37, e_M_sweep_38, e_M_sweep_40, e_M_sweep_43, e_M_sweep_44, e_M_sweep_47, e_M_sweep_48, e_M_sweep_49, e_M_sweep_50, e_M_sweep_53, e_M_sweep_54, e_M_sweep_57, e_M_sweep_60, e_M_sweep_61, e_M_sweep_64, e_M_sweep_65, e_M_sweep_66, e_M_sweep_67, e_M_sweep_69, e_M_sweep_72, e_M_sweep_73, e_M_sweep_76, e_M_sweep_77, e_M_sweep_78, e_M_sweep_79, e_M_sweep_82, e_M_sweep_85, e_M_sweep_86, e_M_sweep_87, e_M_sweep_90, e_M_sweep_91, e_M_sweep_92, e_M_sweep_93, e_M_sweep_95, e_M_sweep_97, e_M_sweep_99, e_M_sweep_102, e_M_sweep_103, e_M_sweep_105, e_M_sweep_108, e_M_sweep_109, e_M_sweep_112, e_M_sweep_114, e_M_sweep_115, e_M_sweep_116, e_M_sweep_117, e_M_sweep_118, e_M_sweep_121, e_M_sweep_122, e_M_sweep_125, e_M_sweep_126, e_M_sweep_127, e_M_sweep_128, e_M_sweep_131, e_M_sweep_133, e_M_sweep_136, e_M_sweep_137, e_M_sweep_138, e_M_sweep_141, e_M_sweep_144, e_M_sweep_145, e_M_sweep_148, e_M_sweep_149, e_M_sweep_152, e_M_sweep_153, e_M_sweep_154, e_M_sweep_157, e_M_sweep_158, e_M_sweep_161, e_M_sweep_162, e_M_sweep_163, e_M_sweep_164, sh_o_82, K_M_isCell, K_M_in, K_M_isTape, eq_false hb, pm_opt_some, pm_opt_none, pm_opt_if, Bool.false_eq_true, Bool.not_false, Bool.not_true, if_false, if_true, true_and, and_true, true_or, or_true, not_true_eq_false, not_false_eq_true, q10, q00, q01, q11, pk_v, pk_i, pk_l, pk_r] }⟩)
end P52
