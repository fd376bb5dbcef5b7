/-! pairs of calls: board -/
/-- sum, green, wrong, best, and the ice, an hour on -/
abbrev bS : Type := Int32 × Int32 × Int32 × Int32 × (Nat → T3)
def boK (I : Nat → Nat → Int32) (T : Nat → T3) : Bool := allF (fun c => beI (thT (T c)) (ldI (I 6) c) (bI I)) 0 16
def boF (I : Nat → Nat → Int32) (s : Int32) (k : Nat) (a : bS) : bS :=
  (a.1 + frI I (hwI I) (nI (hN I + k)) (wmI I (nI (hN I + k))),
   (if s ≤ a.1 + frI I (hwI I) (nI (hN I + k)) (wmI I (nI (hN I + k))) then a.2.1 + 1 else a.2.1),
   (if s ≤ a.1 + frI I (hwI I) (nI (hN I + k)) (wmI I (nI (hN I + k))) ∧ ¬ boK I (hsT I (hwI I) 0 (nI (hN I + k)) (wmI I (nI (hN I + k))) a.2.2.2.2) = true then a.2.2.1 + 1 else a.2.2.1),
   (if boK I (hsT I (hwI I) 0 (nI (hN I + k)) (wmI I (nI (hN I + k))) a.2.2.2.2) = true then a.2.2.2.1 else maxI a.2.2.2.1 (a.1 + frI I (hwI I) (nI (hN I + k)) (wmI I (nI (hN I + k))) + 1)),
   hsT I (hwI I) 0 (nI (hN I + k)) (wmI I (nI (hN I + k))) a.2.2.2.2)
def boV (a : bS) (b : Int32) : Int32 := if b = 0 then a.2.1 else if b = 1 then a.2.2.1 else if 999 < a.2.2.2.1 then -5 else a.2.2.2.1
section P51
variable {X : pm_X} {d : Nat} {P Q : pm_O → Prop} {g : List pm_S} {S : List pm_S} {I I' I1 B : Nat → Nat → Int32} {J J' : Nat → Nat → Int64} {j w m : Nat} {c a b s n k l : Int32} {fi : Int32} {p : Nat → Int32} {T U : Nat → T3} {x : bS}
theorem mx_le (u v : Int32) : (if v ≤ u then u else v) = maxI u v := by
  by_cases q : v ≤ u
  · rw [if_pos q, i_eq, maxI_toInt]
    rw [i_le] at q
    omega
  · rw [if_neg q, i_eq, maxI_toInt]
    rw [i_le] at q
    omega
theorem B_board_step (hs : sfr I B) (hR : Rel B J) (hL : ∀ c, c < 16 → B 44 c = ldI (I 6) c) {k : Nat} (hk : k < m) (hm : m ≤ 240) (l10 : Option Value) : ∃ l10', ∀ (d : Nat) (Q : pm_O → Prop), pm_V X (d + 12) 17 88 [some (.ref 0), some (.int (nI m)), some (.int s), some (.int b), some (.ref (hwI I)), some (.int x.1), some (.int x.2.1), some (.int x.2.2.1), some (.int x.2.2.2.1), some (.int (nI (hN I + k))), l10] [] (pm_S0 ++ g, upC B 36 37 38 x.2.2.2.2 16, J) Q = pm_V X (d + 12) 17 88 [some (.ref 0), some (.int (nI m)), some (.int s), some (.int b), some (.ref (hwI I)), some (.int (boF I s k x).1), some (.int (boF I s k x).2.1), some (.int (boF I s k x).2.2.1), some (.int (boF I s k x).2.2.2.1), some (.int (nI (hN I + (k + 1)))), l10'] [] (pm_S0 ++ g, upC B 36 37 38 (boF I s k x).2.2.2.2 16, J) Q := by
  have hX := Rel_WX hR
  have hok := WX_ok hX
  have hN9 := Rel_hN9 hR
  have eN := Rel_hN hR
  have ehw : hwI B = hwI I := sfr_hw hs
  have ehN : hN B = hN I := sfr_hN hs
  rw [ehw] at hok
  rw [ehN] at hN9 eN
  have isw : isW (hwI I) := hwI_is
  have e1 : ∀ T, upC B 36 37 38 T 16 1 = B 1 := fun T => upC_at (by decide) (by decide) (by decide)
  have hq : (nI (hN I + m) ≤ nI (hN I + k)) = False := by
    rw [nI_le_l (by omega) (by omega)]
    exact eq_false (by omega)
  have ewm : (if dayI (nI (hN I + k)) < 10 ∧ B 1 5 >>> (dayI (nI (hN I + k)) &&& 31) &&& 1 = 1 then (1 : Int32) else 0) = wmI I (nI (hN I + k)) := by
    rw [← sfr_wm hs]
    rfl
  have fB : ∀ T, pm_fr [36, 37, 38] B (upC B 36 37 38 T 16) := fun T => upC_fr (by decide) (by decide) (by decide)
  have efr := fun (d : Nat) (P : pm_O → Prop) (T : Nat → T3) => K_W_frost (X := X) (d := d) (P := P) (J := J) (I := upC B 36 37 38 T 16) (hour := nI (hN I + k)) (warm := wmI I (nI (hN I + k))) (isW_at (g := g) isw) (fr_wok (by decide) (fB T) isw hok) wmI_01
  have efr2 : ∀ T, wsI (upC B 36 37 38 T 16) (hwI I) 0 (nI (hN I + k)) (wmI I (nI (hN I + k))) - wsI (upC B 36 37 38 T 16) (hwI I) 1 (nI (hN I + k)) (wmI I (nI (hN I + k))) = frI I (hwI I) (nI (hN I + k)) (wmI I (nI (hN I + k))) := by
    intro T
    unfold frI
    rw [fr_ws (by decide) (fB T) isw, fr_ws (by decide) (fB T) isw, sfr_ws hs isw, sfr_ws hs isw]
  simp only [efr2] at efr
  have ehr := fun (d : Nat) (P : pm_O → Prop) (T : Nat → T3) => K_B_hour (X := X) (d := d) (P := P) (g := g) (J := J) (I := B) (T := T) (hour := nI (hN I + k)) (warm := wmI I (nI (hN I + k))) (heat := 0) ice_ask (by decide) (by decide) (by decide) isw hok wmI_01
  have ehs : ∀ T, hsT B (hwI I) 0 (nI (hN I + k)) (wmI I (nI (hN I + k))) T = hsT I (hwI I) 0 (nI (hN I + k)) (wmI I (nI (hN I + k))) T := fun T => sfr_hs hs isw
  simp only [ehs] at ehr
  have hokB := hok
  rw [← ehw] at hokB
  have eb : ∀ T : Nat → T3, allF (fun c => beI (thT (T c)) (B 44 c) (bI B)) 0 16 = boK I T := fun T => allF_congr _ _ (fun i h1 h2 => by rw [hL i (by omega), sfr_bI hs])
  have hev := fun (d : Nat) (P : pm_O → Prop) (T : Nat → T3) => K_evA (X := X) (d := d) (P := P) (g := g) (J := J) (T := T) hokB
  simp only [eb] at hev
  refine ⟨some (.int (b2i (boK I (boF I s k x).2.2.2.2))), fun d Q => ?_⟩
  have hd : 2 ≤ d + 12 := by omega
  rw [e_B_board_88]
  simp only [e_B_board_0, e_B_board_1, e_B_board_2, e_B_board_3, e_B_board_6, e_B_board_9, e_B_board_10, e_B_board_11, e_B_board_12, e_B_board_13, e_B_board_16, e_B_board_19, e_B_board_22, e_B_board_23, e_B_board_24, e_B_board_27, e_B_board_30, e_B_board_33, e_B_board_35, e_B_board_36, e_B_board_37, e_B_board_40, e_B_board_42, e_B_board_43, e_B_board_44, e_B_board_47, e_B_board_50, e_B_board_53, e_B_board_54, e_B_board_57, e_B_board_58, e_B_board_61, e_B_board_64, e_B_board_67, e_B_board_68, e_B_board_70, e_B_board_71, e_B_board_73, e_B_board_74, e_B_board_76, e_B_board_77, e_B_board_79, e_B_board_80, e_B_board_83, e_B_board_86, e_B_board_90, e_B_board_91, e_B_board_94, e_B_board_97, e_B_board_98, e_B_board_99, e_B_board_102, e_B_board_104, e_B_board_106, e_B_board_108, e_B_board_109, e_B_board_111, e_B_board_114, e_B_board_117, e_B_board_118, e_B_board_120, e_B_board_121, e_B_board_122, e_B_board_125, e_B_board_127, e_B_board_129, e_B_board_130, e_B_board_132, e_B_board_135, e_B_board_136, e_B_board_139, e_B_board_140, e_B_board_141, e_B_board_144, e_B_board_147, e_B_board_149, e_B_board_151, e_B_board_152, e_B_board_155, e_B_board_158, e_B_board_160, e_B_board_161, e_B_board_164, e_B_board_166, e_B_board_169, e_B_board_172, e_B_board_174, e_B_board_177, e_B_board_179, e_B_board_181, e_B_board_182, e_B_board_183, e_B_board_186, e_B_board_188, e_B_board_191, e_B_board_194, e_B_board_195, e_B_board_198, e_B_board_200, e_B_board_201, e_B_board_202, e_B_board_203, e_B_board_206, e_B_board_208, e_B_board_209, e_B_board_211, e_B_board_214, e_B_board_217, e_B_board_219, e_B_board_222, e_B_board_224, sh_o_0, sh_o_1, sh_r_0_0, sh_r_0_10, (isW_at (g := g) isw).1, e1, eN, nI_add, hq, K_B_isWarm, ewm, efr, ehr, hev, hd, maxI_d, nI_1, pm_opt_some, pm_opt_none, pm_opt_if, Bool.false_eq_true, Bool.not_false, Bool.not_true, if_false, if_true, true_and, and_true, true_or, or_true, not_true_eq_false, not_false_eq_true, q10, q00, q01, q11, pk_v, pk_i, pk_l, pk_r]
  unfold boF
  dsimp only
  by_cases q : boK I (hsT I (hwI I) 0 (nI (hN I + k)) (wmI I (nI (hN I + k))) x.2.2.2.2) = true
  · have eb2 : b2i (boK I (hsT I (hwI I) 0 (nI (hN I + k)) (wmI I (nI (hN I + k))) x.2.2.2.2)) = 1 := by
      unfold b2i
      rw [if_pos q]
    rw [eb2]
    by_cases q2 : x.1 + frI I (hwI I) (nI (hN I + k)) (wmI I (nI (hN I + k))) < s
    · have q3 : ¬ s ≤ x.1 + frI I (hwI I) (nI (hN I + k)) (wmI I (nI (hN I + k))) := Int32.not_le.mpr q2
      simp only [q, q2, q3, false_and, pm_opt_some, pm_opt_none, pm_opt_if, Bool.false_eq_true, Bool.not_false, Bool.not_true, if_false, if_true, true_and, and_true, true_or, or_true, not_true_eq_false, not_false_eq_true, q10, q00, q01, q11, pk_v, pk_i, pk_l, pk_r]
      rfl
    · have q3 : s ≤ x.1 + frI I (hwI I) (nI (hN I + k)) (wmI I (nI (hN I + k))) := Int32.not_lt.mp q2
      simp only [q, q2, q3, and_false, pm_opt_some, pm_opt_none, pm_opt_if, Bool.false_eq_true, Bool.not_false, Bool.not_true, if_false, if_true, true_and, and_true, true_or, or_true, not_true_eq_false, not_false_eq_true, q10, q00, q01, q11, pk_v, pk_i, pk_l, pk_r]
      rfl
  · have eb2 : b2i (boK I (hsT I (hwI I) 0 (nI (hN I + k)) (wmI I (nI (hN I + k))) x.2.2.2.2)) = 0 := by
      unfold b2i
      rw [if_neg q]
    rw [eb2]
    by_cases q2 : x.1 + frI I (hwI I) (nI (hN I + k)) (wmI I (nI (hN I + k))) < s
    · have q3 : ¬ s ≤ x.1 + frI I (hwI I) (nI (hN I + k)) (wmI I (nI (hN I + k))) := Int32.not_le.mpr q2
      simp only [q, q2, q3, false_and, pm_opt_some, pm_opt_none, pm_opt_if, Bool.false_eq_true, Bool.not_false, Bool.not_true, if_false, if_true, true_and, and_true, true_or, or_true, not_true_eq_false, not_false_eq_true, q10, q00, q01, q11, pk_v, pk_i, pk_l, pk_r]
      rfl
    · have q3 : s ≤ x.1 + frI I (hwI I) (nI (hN I + k)) (wmI I (nI (hN I + k))) := Int32.not_lt.mp q2
      simp only [q, q2, q3, and_self, pm_opt_some, pm_opt_none, pm_opt_if, Bool.false_eq_true, Bool.not_false, Bool.not_true, if_false, if_true, true_and, and_true, true_or, or_true, not_true_eq_false, not_false_eq_true, q10, q00, q01, q11, pk_v, pk_i, pk_l, pk_r]
      rfl
theorem M_board_step (hs : sfr I B) (hR : Rel B J) (hLm : B 82 27 = -1) (hT : Tok x.2.2.2.2) {k : Nat} (hk : k < m) (hm : m ≤ 240) (p : Nat → Int32) (l9 : Option Value) : ∃ B' p' l9', sfr I B' ∧ Rel B' J ∧ sfr B B' ∧ B' 82 27 = -1 ∧ Tok (boF I s k x).2.2.2.2 ∧ ∀ (d : Nat) (Q : pm_O → Prop), pm_V X (d + 12) 160 58 [some (.ref 82), some (.int (nI m)), some (.int s), some (.int b), some (.int x.1), some (.int x.2.1), some (.int x.2.2.1), some (.int x.2.2.2.1), some (.int (nI k)), l9] [] (pm_S0 ++ g, MS B x.2.2.2.2 (nI (hN I + k)) p, J) Q = pm_V X (d + 12) 160 58 [some (.ref 82), some (.int (nI m)), some (.int s), some (.int b), some (.int (boF I s k x).1), some (.int (boF I s k x).2.1), some (.int (boF I s k x).2.2.1), some (.int (boF I s k x).2.2.2.1), some (.int (nI (k + 1))), l9'] [] (pm_S0 ++ g, MS B' (boF I s k x).2.2.2.2 (nI (hN I + (k + 1))) p', J) Q := by
  have hX := Rel_WX hR
  have hN9 := Rel_hN9 hR
  have ehw : hwI B = hwI I := sfr_hw hs
  have ehN : hN B = hN I := sfr_hN hs
  rw [ehN] at hN9
  have isw : isW (hwI I) := hwI_is
  have hq : (nI m ≤ nI k) = False := by
    rw [nI_le_l (by omega) (by omega)]
    exact eq_false (by omega)
  -- FROST of the hour
  have hXM : WX (MS B x.2.2.2.2 (nI (hN I + k)) p) (hwI I) (B 1 11) := by
    rw [← ehw]
    exact MS_WX hX
  obtain ⟨p1, h1⟩ := M_frost (X := X) (g := g) (J := J) (hour := nI (hN I + k)) hXM (wmI_01 (I := I) (h := nI (hN I + k)))
  have ef : frI (MS B x.2.2.2.2 (nI (hN I + k)) p) (hwI I) (nI (hN I + k)) (wmI I (nI (hN I + k))) = frI I (hwI I) (nI (hN I + k)) (wmI I (nI (hN I + k))) := sfr_fr (sfr_tr hs MS_sfr) isw
  rw [ef] at h1
  have eM : ∀ p1, pm_up (MS B x.2.2.2.2 (nI (hN I + k)) p) 98 p1 = MS B x.2.2.2.2 (nI (hN I + k)) p1 := by
    intro p1
    rw [MS_98, MS_98, pw98u]
  rw [eM] at h1
  obtain ⟨p2, h2⟩ := M_goH (X := X) (g := g) (p := p1) (m := 1) (h0 := hN I + k) (T := x.2.2.2.2) hs hR hLm hT (by omega)
  have eh : hrT I (hwI I) 0 (hN I + k) 1 x.2.2.2.2 = hsT I (hwI I) 0 (nI (hN I + k)) (wmI I (nI (hN I + k))) x.2.2.2.2 := rfl
  have hT' : Tok (hsT I (hwI I) 0 (nI (hN I + k)) (wmI I (nI (hN I + k))) x.2.2.2.2) := by
    rw [← eh]
    have e2 : hrT I (hwI I) 0 (hN I + k) 1 x.2.2.2.2 = hrM B (hwI B) (hN I + k) 1 x.2.2.2.2 := by
      rw [hrM_no hLm, ehw, sfr_hr hs isw]
    rw [e2]
    exact hrM_ok hX (Rel_MC hR) hT
  rw [eh, show nI 1 = 1 from rfl] at h2
  have hs1 : sfr B (pm_up B 102 (fun i => if i < 16 then ldI (B 6) i else B 102 i)) := sfr_102
  have kb := fun (d : Nat) (P : pm_O → Prop) (T : Nat → T3) (n : Int32) (p : Nat → Int32) => K_M_bearsAll (X := X) (d := d) (P := P) (g := g) (J := J) (T := T) (n := n) (p := p) (Rel_86 hR) (Rel_WXm hR)
  have eb : ∀ T : Nat → T3, allF (fun k => beI (thT (T k)) (ldI (B 6) k) (wbI B (hwI B))) 0 16 = boK I T := by
    intro T
    rw [sfr_at hs (q := 6) (by decide), show wbI B (hwI B) = bI B from rfl, sfr_bI hs]
    rfl
  simp only [eb] at kb
  have e10 : ∀ p, MS B x.2.2.2.2 (nI (hN I + k)) p 82 10 = B 1 11 := fun p => by
    rw [MS_82k (by decide)]
    exact hR.1.2.2.2.2
  have e26 : ∀ p, MS B x.2.2.2.2 (nI (hN I + k)) p 82 26 = nI (hN I + k) := fun p => by
    rw [MS_82, upd_app, if_pos rfl]
  have ewm : (if dayI (nI (hN I + k)) < 10 ∧ MS B x.2.2.2.2 (nI (hN I + k)) p 82 1 >>> (dayI (nI (hN I + k)) &&& 31) &&& 1 = 1 then (1 : Int32) else 0) = wmI I (nI (hN I + k)) := by
    rw [MS_82k (by decide), hR.1.2.2.1, ← sfr_wm hs]
    rfl
  refine ⟨_, p2, some (.int (b2i (!boK I (boF I s k x).2.2.2.2))), sfr_tr hs hs1, Rel_s hs1 hR, hs1, by rw [pu_ne (by decide)]; exact hLm, hT', fun d Q => ?_⟩
  rw [e_M_board_58]
  simp only [e_M_board_0, e_M_board_1, e_M_board_2, e_M_board_3, e_M_board_4, e_M_board_7, e_M_board_10, e_M_board_11, e_M_board_12, e_M_board_13, e_M_board_14, e_M_board_15, e_M_board_18, e_M_board_21, e_M_board_24, e_M_board_25, e_M_board_26, e_M_board_27, e_M_board_30, e_M_board_33, e_M_board_36, e_M_board_38, e_M_board_39, e_M_board_40, e_M_board_43, e_M_board_44, e_M_board_46, e_M_board_47, e_M_board_49, e_M_board_50, e_M_board_52, e_M_board_53, e_M_board_55, e_M_board_56, e_M_board_60, e_M_board_61, e_M_board_64, e_M_board_66, e_M_board_67, e_M_board_68, e_M_board_71, e_M_board_72, e_M_board_75, e_M_board_76, e_M_board_77, e_M_board_80, e_M_board_83, e_M_board_86, e_M_board_87, e_M_board_89, e_M_board_90, e_M_board_91, e_M_board_94, e_M_board_95, e_M_board_98, e_M_board_101, e_M_board_102, e_M_board_105, e_M_board_106, e_M_board_108, e_M_board_110, e_M_board_112, e_M_board_113, e_M_board_116, e_M_board_117, e_M_board_120, e_M_board_121, e_M_board_122, e_M_board_124, e_M_board_126, e_M_board_128, e_M_board_129, e_M_board_132, e_M_board_134, e_M_board_137, e_M_board_138, e_M_board_141, e_M_board_142, e_M_board_143, e_M_board_145, e_M_board_147, e_M_board_150, e_M_board_152, e_M_board_153, e_M_board_154, e_M_board_156, e_M_board_159, e_M_board_161, e_M_board_162, e_M_board_163, e_M_board_166, e_M_board_168, e_M_board_170, e_M_board_173, e_M_board_176, e_M_board_177, e_M_board_180, e_M_board_182, e_M_board_185, e_M_board_186, e_M_board_187, e_M_board_190, e_M_board_192, e_M_board_195, e_M_board_197, e_M_board_200, e_M_board_203, e_M_board_205, e_M_board_208, e_M_board_210, hq, sh_o_82, e10, e26, K_M_isWarm, ewm, h1, h2, kb, nI_1, pm_opt_some, pm_opt_none, pm_opt_if, Bool.false_eq_true, Bool.not_false, Bool.not_true, if_false, if_true, true_and, and_true, true_or, or_true, not_true_eq_false, not_false_eq_true, q10, q00, q01, q11, pk_v, pk_i, pk_l, pk_r]
  unfold boF
  dsimp only
  by_cases q : boK I (hsT I (hwI I) 0 (nI (hN I + k)) (wmI I (nI (hN I + k))) x.2.2.2.2) = true
  · have eb2 : b2i (!boK I (hsT I (hwI I) 0 (nI (hN I + k)) (wmI I (nI (hN I + k))) x.2.2.2.2)) = 0 := by
      unfold b2i
      rw [q]
      rfl
    rw [eb2]
    by_cases q2 : x.1 + frI I (hwI I) (nI (hN I + k)) (wmI I (nI (hN I + k))) < s
    · have q3 : ¬ s ≤ x.1 + frI I (hwI I) (nI (hN I + k)) (wmI I (nI (hN I + k))) := Int32.not_le.mpr q2
      simp only [q, q2, q3, false_and, Int32.add_zero, pm_opt_some, pm_opt_none, pm_opt_if, Bool.false_eq_true, Bool.not_false, Bool.not_true, if_false, if_true, true_and, and_true, true_or, or_true, not_true_eq_false, not_false_eq_true, q10, q00, q01, q11, pk_v, pk_i, pk_l, pk_r]
      rfl
    · have q3 : s ≤ x.1 + frI I (hwI I) (nI (hN I + k)) (wmI I (nI (hN I + k))) := Int32.not_lt.mp q2
      simp only [q, q2, q3, and_false, Int32.add_zero, pm_opt_some, pm_opt_none, pm_opt_if, Bool.false_eq_true, Bool.not_false, Bool.not_true, if_false, if_true, true_and, and_true, true_or, or_true, not_true_eq_false, not_false_eq_true, q10, q00, q01, q11, pk_v, pk_i, pk_l, pk_r]
      rfl
  · have eb2 : b2i (!boK I (hsT I (hwI I) 0 (nI (hN I + k)) (wmI I (nI (hN I + k))) x.2.2.2.2)) = 1 := by
      unfold b2i
      rw [Bool.not_eq_true] at q
      rw [q]
      rfl
    rw [eb2]
    rw [← mx_le]
    by_cases q2 : x.1 + frI I (hwI I) (nI (hN I + k)) (wmI I (nI (hN I + k))) < s
    · have q3 : ¬ s ≤ x.1 + frI I (hwI I) (nI (hN I + k)) (wmI I (nI (hN I + k))) := Int32.not_le.mpr q2
      by_cases q4 : x.1 + frI I (hwI I) (nI (hN I + k)) (wmI I (nI (hN I + k))) + 1 ≤ x.2.2.2.1
      · simp only [q, q2, q3, q4, false_and, Int32.add_zero, pm_opt_some, pm_opt_none, pm_opt_if, Bool.false_eq_true, Bool.not_false, Bool.not_true, if_false, if_true, true_and, and_true, true_or, or_true, not_true_eq_false, not_false_eq_true, q10, q00, q01, q11, pk_v, pk_i, pk_l, pk_r]
        rfl
      · simp only [q, q2, q3, q4, false_and, Int32.add_zero, pm_opt_some, pm_opt_none, pm_opt_if, Bool.false_eq_true, Bool.not_false, Bool.not_true, if_false, if_true, true_and, and_true, true_or, or_true, not_true_eq_false, not_false_eq_true, q10, q00, q01, q11, pk_v, pk_i, pk_l, pk_r]
        rfl
    · have q3 : s ≤ x.1 + frI I (hwI I) (nI (hN I + k)) (wmI I (nI (hN I + k))) := Int32.not_lt.mp q2
      by_cases q4 : x.1 + frI I (hwI I) (nI (hN I + k)) (wmI I (nI (hN I + k))) + 1 ≤ x.2.2.2.1
      · simp only [q, q2, q3, q4, and_self, Int32.add_zero, pm_opt_some, pm_opt_none, pm_opt_if, Bool.false_eq_true, Bool.not_false, Bool.not_true, if_false, if_true, true_and, and_true, true_or, or_true, not_true_eq_false, not_false_eq_true, q10, q00, q01, q11, pk_v, pk_i, pk_l, pk_r]
        rfl
      · simp only [q, q2, q3, q4, and_self, Int32.add_zero, pm_opt_some, pm_opt_none, pm_opt_if, Bool.false_eq_true, Bool.not_false, Bool.not_true, if_false, if_true, true_and, and_true, true_or, or_true, not_true_eq_false, not_false_eq_true, q10, q00, q01, q11, pk_v, pk_i, pk_l, pk_r]
        rfl
def boE (I : Nat → Nat → Int32) (s : Int32) (m : Nat) : bS := fld (boF I s) 0 m (0, 0, 0, 0, rowT I 3 4 5)
theorem B_board_loop (hs : sfr I B) (hR : Rel B J) (hL : ∀ c, c < 16 → B 44 c = ldI (I 6) c) (hm : m ≤ 240) : ∀ (n k : Nat) (x : bS) (l10 : Option Value), k + n = m → ∃ l10', ∀ (d : Nat) (Q : pm_O → Prop), pm_V X (d + 12) 17 88 [some (.ref 0), some (.int (nI m)), some (.int s), some (.int b), some (.ref (hwI I)), some (.int x.1), some (.int x.2.1), some (.int x.2.2.1), some (.int x.2.2.2.1), some (.int (nI (hN I + k))), l10] [] (pm_S0 ++ g, upC B 36 37 38 x.2.2.2.2 16, J) Q = pm_V X (d + 12) 17 88 [some (.ref 0), some (.int (nI m)), some (.int s), some (.int b), some (.ref (hwI I)), some (.int (fld (boF I s) k n x).1), some (.int (fld (boF I s) k n x).2.1), some (.int (fld (boF I s) k n x).2.2.1), some (.int (fld (boF I s) k n x).2.2.2.1), some (.int (nI (hN I + m))), l10'] [] (pm_S0 ++ g, upC B 36 37 38 (fld (boF I s) k n x).2.2.2.2 16, J) Q := by
  intro n
  induction n with
  | zero =>
    intro k x l10 h
    obtain rfl : k = m := by omega
    exact ⟨l10, fun d Q => rfl⟩
  | succ n ih =>
    intro k x l10 h
    obtain ⟨l1, h1⟩ := B_board_step (X := X) (g := g) (J := J) (s := s) (b := b) (x := x) (k := k) hs hR hL (show k < m by omega) hm l10
    obtain ⟨l2, h2⟩ := ih (k + 1) (boF I s k x) l1 (by omega)
    exact ⟨l2, fun d Q => (h1 d Q).trans (h2 d Q)⟩
theorem M_board_loop (hm : m ≤ 240) : ∀ (n k : Nat) (x : bS) (B : Nat → Nat → Int32) (p : Nat → Int32) (l9 : Option Value), k + n = m → sfr I B → Rel B J → B 82 27 = -1 → Tok x.2.2.2.2 → ∃ B' p' l9', sfr B B' ∧ ∀ (d : Nat) (Q : pm_O → Prop), pm_V X (d + 12) 160 58 [some (.ref 82), some (.int (nI m)), some (.int s), some (.int b), some (.int x.1), some (.int x.2.1), some (.int x.2.2.1), some (.int x.2.2.2.1), some (.int (nI k)), l9] [] (pm_S0 ++ g, MS B x.2.2.2.2 (nI (hN I + k)) p, J) Q = pm_V X (d + 12) 160 58 [some (.ref 82), some (.int (nI m)), some (.int s), some (.int b), some (.int (fld (boF I s) k n x).1), some (.int (fld (boF I s) k n x).2.1), some (.int (fld (boF I s) k n x).2.2.1), some (.int (fld (boF I s) k n x).2.2.2.1), some (.int (nI m)), l9'] [] (pm_S0 ++ g, MS B' (fld (boF I s) k n x).2.2.2.2 (nI (hN I + m)) p', J) Q := by
  intro n
  induction n with
  | zero =>
    intro k x B p l9 h hs hR hL hT
    obtain rfl : k = m := by omega
    exact ⟨B, p, l9, sfr_rf, fun d Q => rfl⟩
  | succ n ih =>
    intro k x B p l9 h hs hR hL hT
    obtain ⟨B1, p1, l1, a1, a2, a3, a4, a5, h1⟩ := M_board_step (X := X) (g := g) (J := J) (s := s) (b := b) (x := x) (k := k) hs hR hL hT (show k < m by omega) hm p l9
    obtain ⟨B2, p2, l2, a6, h2⟩ := ih (k + 1) (boF I s k x) B1 p1 l1 (by omega) a1 a2 a4 a5
    exact ⟨B2, p2, l2, sfr_tr a3 a6, fun d Q => (h1 d Q).trans (h2 d Q)⟩
theorem Pair_board (hR : Rel I J) : Pair X 17 160 [.int a, .int s, .int b] g I J := by
  by_cases hb : 0 ≤ b ∧ b ≤ 2
  · by_cases ha : 1 ≤ a ∧ a ≤ 240
    · by_cases hs : 0 ≤ s ∧ s ≤ 999
      · have h0 : 0 ≤ a ∧ a ≤ 240 := by
          refine ⟨?_, ha.2⟩
          have := ha.1
          rw [i_le, k1] at this
          rw [i_le, k0]
          omega
        obtain ⟨m, hm, rfl⟩ := in_of (m := 240) rfl h0
        have eN := Rel_hN hR
        refine Pair_q (v := .int (boV (boE I s m) b)) hR ?_ (fun I1 h1 hR1 => ?_)
        · have hs44 : sfr I (pm_up I 44 (fun k => if k < 16 then ldI (I 6) k else I 44 k)) := sfr_of (L := [44]) (by decide) (pm_fr_up (by decide))
          obtain ⟨l10, hl⟩ := B_board_loop (X := X) (g := g) (J := J) (s := s) (b := b) hs44 (Rel_s hs44 hR) (fun c hc => by rw [pu_eq, if_pos hc]) hm m 0 (0, 0, 0, 0, rowT I 3 4 5) none (by omega)
          refine ⟨upC (pm_up I 44 (fun k => if k < 16 then ldI (I 6) k else I 44 k)) 36 37 38 (boE I s m).2.2.2.2 16, sfr_tr hs44 ask_sfr, K50 fun d' => ?_⟩
          have hl' := hl (d' + 37) (fun q => q = (some (.int (boV (boE I s m) b)), (pm_S0 ++ g, upC (pm_up I 44 (fun k => if k < 16 then ldI (I 6) k else I 44 k)) 36 37 38 (boE I s m).2.2.2.2 16, J)))
          rw [show fld (boF I s) 0 m (0, 0, 0, 0, rowT I 3 4 5) = boE I s m from rfl] at hl'
          simp only [Nat.add_zero] at hl'
          have e1 : ∀ T, upC (pm_up I 44 (fun k => if k < 16 then ldI (I 6) k else I 44 k)) 36 37 38 T 16 1 4 = nI (hN I) := fun T => by
            rw [upC_at (by decide) (by decide) (by decide), pu_ne (by decide)]
            exact eN
          have ro : rowT (pm_up I 44 (fun k => if k < 16 then ldI (I 6) k else I 44 k)) 3 4 5 = rowT I 3 4 5 := sfr_row hs44
          have isw : isW (hwI I) := hwI_is
          show pm_V X (d' + 49) 17 0 [some (.ref 0), some (.int (nI m)), some (.int s), some (.int b), none, none, none, none, none, none, none] [] (pm_S0 ++ g, I, J) _
          simp only [e_B_board_0, e_B_board_1, e_B_board_2, e_B_board_3, e_B_board_6, e_B_board_9, e_B_board_10, e_B_board_11, e_B_board_12, e_B_board_13, e_B_board_16, e_B_board_19, e_B_board_22, e_B_board_23, e_B_board_24, e_B_board_27, e_B_board_30, e_B_board_33, e_B_board_35, e_B_board_36, e_B_board_37, e_B_board_40, e_B_board_42, e_B_board_43, e_B_board_44, e_B_board_47, e_B_board_50, e_B_board_53, e_B_board_54, e_B_board_57, e_B_board_58, e_B_board_61, e_B_board_64, e_B_board_67, e_B_board_68, e_B_board_70, e_B_board_71, e_B_board_73, e_B_board_74, e_B_board_76, e_B_board_77, e_B_board_79, e_B_board_80, e_B_board_83, e_B_board_86, e_B_board_90, e_B_board_91, e_B_board_94, e_B_board_97, e_B_board_98, e_B_board_99, e_B_board_102, e_B_board_104, e_B_board_106, e_B_board_108, e_B_board_109, e_B_board_111, e_B_board_114, e_B_board_117, e_B_board_118, e_B_board_120, e_B_board_121, e_B_board_122, e_B_board_125, e_B_board_127, e_B_board_129, e_B_board_130, e_B_board_132, e_B_board_135, e_B_board_136, e_B_board_139, e_B_board_140, e_B_board_141, e_B_board_144, e_B_board_147, e_B_board_149, e_B_board_151, e_B_board_152, e_B_board_155, e_B_board_158, e_B_board_160, e_B_board_161, e_B_board_164, e_B_board_166, e_B_board_169, e_B_board_172, e_B_board_174, e_B_board_177, e_B_board_179, e_B_board_181, e_B_board_182, e_B_board_183, e_B_board_186, e_B_board_188, e_B_board_191, e_B_board_194, e_B_board_195, e_B_board_198, e_B_board_200, e_B_board_201, e_B_board_202, e_B_board_203, e_B_board_206, e_B_board_208, e_B_board_209, e_B_board_211, e_B_board_214, e_B_board_217, e_B_board_219, e_B_board_222, e_B_board_224, K_B_isWithin, eq_true hb, eq_true ha, eq_true hs, sh_o_0, sh_o_1, sh_o_35, sh_r_0_0, sh_r_0_10, sh_r_1_0, sh_r_1_1, K_B_holding, K_B_fillLoads (g := g) (a := 6) rfl (by decide), K_cpA, ro, e1, pm_opt_some, pm_opt_none, pm_opt_if, Bool.false_eq_true, Bool.not_false, Bool.not_true, if_false, if_true, true_and, and_true, true_or, or_true, not_true_eq_false, not_false_eq_true, q10, q00, q01, q11, pk_v, pk_i, pk_l, pk_r]
          rw [hl', e_B_board_88]
          simp only [e_B_board_0, e_B_board_1, e_B_board_2, e_B_board_3, e_B_board_6, e_B_board_9, e_B_board_10, e_B_board_11, e_B_board_12, e_B_board_13, e_B_board_16, e_B_board_19, e_B_board_22, e_B_board_23, e_B_board_24, e_B_board_27, e_B_board_30, e_B_board_33, e_B_board_35, e_B_board_36, e_B_board_37, e_B_board_40, e_B_board_42, e_B_board_43, e_B_board_44, e_B_board_47, e_B_board_50, e_B_board_53, e_B_board_54, e_B_board_57, e_B_board_58, e_B_board_61, e_B_board_64, e_B_board_67, e_B_board_68, e_B_board_70, e_B_board_71, e_B_board_73, e_B_board_74, e_B_board_76, e_B_board_77, e_B_board_79, e_B_board_80, e_B_board_83, e_B_board_86, e_B_board_90, e_B_board_91, e_B_board_94, e_B_board_97, e_B_board_98, e_B_board_99, e_B_board_102, e_B_board_104, e_B_board_106, e_B_board_108, e_B_board_109, e_B_board_111, e_B_board_114, e_B_board_117, e_B_board_118, e_B_board_120, e_B_board_121, e_B_board_122, e_B_board_125, e_B_board_127, e_B_board_129, e_B_board_130, e_B_board_132, e_B_board_135, e_B_board_136, e_B_board_139, e_B_board_140, e_B_board_141, e_B_board_144, e_B_board_147, e_B_board_149, e_B_board_151, e_B_board_152, e_B_board_155, e_B_board_158, e_B_board_160, e_B_board_161, e_B_board_164, e_B_board_166, e_B_board_169, e_B_board_172, e_B_board_174, e_B_board_177, e_B_board_179, e_B_board_181, e_B_board_182, e_B_board_183, e_B_board_186, e_B_board_188, e_B_board_191, e_B_board_194, e_B_board_195, e_B_board_198, e_B_board_200, e_B_board_201, e_B_board_202, e_B_board_203, e_B_board_206, e_B_board_208, e_B_board_209, e_B_board_211, e_B_board_214, e_B_board_217, e_B_board_219, e_B_board_222, e_B_board_224, sh_o_1, sh_r_0_0, e1, nI_add, Int32.le_refl, pm_opt_some, pm_opt_none, pm_opt_if, Bool.false_eq_true, Bool.not_false, Bool.not_true, if_false, if_true, true_and, and_true, true_or, or_true, not_true_eq_false, not_false_eq_true, q10, q00, q01, q11, pk_v, pk_i, pk_l, pk_r]
          unfold boV
          by_cases q0 : b = 0
          · simp only [q0, pm_opt_some, pm_opt_none, pm_opt_if, Bool.false_eq_true, Bool.not_false, Bool.not_true, if_false, if_true, true_and, and_true, true_or, or_true, not_true_eq_false, not_false_eq_true, q10, q00, q01, q11, pk_v, pk_i, pk_l, pk_r]
          · by_cases q1 : b = 1
            · simp only [q1, pm_opt_some, pm_opt_none, pm_opt_if, Bool.false_eq_true, Bool.not_false, Bool.not_true, if_false, if_true, true_and, and_true, true_or, or_true, not_true_eq_false, not_false_eq_true, q10, q00, q01, q11, pk_v, pk_i, pk_l, pk_r]
            · by_cases q2 : (boE I s m).2.2.2.1 ≤ 999
              · have q3 : ¬ 999 < (boE I s m).2.2.2.1 := Int32.not_lt.mpr q2
                simp only [q0, q1, q2, q3, pm_opt_some, pm_opt_none, pm_opt_if, Bool.false_eq_true, Bool.not_false, Bool.not_true, if_false, if_true, true_and, and_true, true_or, or_true, not_true_eq_false, not_false_eq_true, q10, q00, q01, q11, pk_v, pk_i, pk_l, pk_r]
              · have q3 : 999 < (boE I s m).2.2.2.1 := Int32.not_le.mp q2
                simp only [q0, q1, q2, q3, pm_opt_some, pm_opt_none, pm_opt_if, Bool.false_eq_true, Bool.not_false, Bool.not_true, if_false, if_true, true_and, and_true, true_or, or_true, not_true_eq_false, not_false_eq_true, q10, q00, q01, q11, pk_v, pk_i, pk_l, pk_r]
        · have hs0 : sfr I (nL I1) := sfr_tr h1 nL_sfr
          obtain ⟨B', p', l9, a1, hl⟩ := M_board_loop (X := X) (g := g) (J := J) (s := s) (b := b) hm m 0 (0, 0, 0, 0, rowT I 3 4 5) (nL I1) (I1 98) none (by omega) hs0 (Rel_s nL_sfr hR1) nL_27 (Rel_Tok hR)
          refine ⟨MS B' (boE I s m).2.2.2.2 (nI (hN I + m)) p', sfr_tr (sfr_tr nL_sfr a1) MS_sfr, K50 fun d' => ?_⟩
          have hl' := hl (d' + 37) (fun q => q = (some (.int (boV (boE I s m) b)), (pm_S0 ++ g, MS B' (boE I s m).2.2.2.2 (nI (hN I + m)) p', J)))
          rw [show fld (boF I s) 0 m (0, 0, 0, 0, rowT I 3 4 5) = boE I s m from rfl] at hl'
          simp only [Nat.add_zero, nI_0] at hl'
          show pm_V X (d' + 49) 160 0 [some (.ref 82), some (.int (nI m)), some (.int s), some (.int b), none, none, none, none, none, none] [] (pm_S0 ++ g, I1, J) _
          simp only [e_M_board_0, e_M_board_1, e_M_board_2, e_M_board_3, e_M_board_4, e_M_board_7, e_M_board_10, e_M_board_11, e_M_board_12, e_M_board_13, e_M_board_14, e_M_board_15, e_M_board_18, e_M_board_21, e_M_board_24, e_M_board_25, e_M_board_26, e_M_board_27, e_M_board_30, e_M_board_33, e_M_board_36, e_M_board_38, e_M_board_39, e_M_board_40, e_M_board_43, e_M_board_44, e_M_board_46, e_M_board_47, e_M_board_49, e_M_board_50, e_M_board_52, e_M_board_53, e_M_board_55, e_M_board_56, e_M_board_60, e_M_board_61, e_M_board_64, e_M_board_66, e_M_board_67, e_M_board_68, e_M_board_71, e_M_board_72, e_M_board_75, e_M_board_76, e_M_board_77, e_M_board_80, e_M_board_83, e_M_board_86, e_M_board_87, e_M_board_89, e_M_board_90, e_M_board_91, e_M_board_94, e_M_board_95, e_M_board_98, e_M_board_101, e_M_board_102, e_M_board_105, e_M_board_106, e_M_board_108, e_M_board_110, e_M_board_112, e_M_board_113, e_M_board_116, e_M_board_117, e_M_board_120, e_M_board_121, e_M_board_122, e_M_board_124, e_M_board_126, e_M_board_128, e_M_board_129, e_M_board_132, e_M_board_134, e_M_board_137, e_M_board_138, e_M_board_141, e_M_board_142, e_M_board_143, e_M_board_145, e_M_board_147, e_M_board_150, e_M_board_152, e_M_board_153, e_M_board_154, e_M_board_156, e_M_board_159, e_M_board_161, e_M_board_162, e_M_board_163, e_M_board_166, e_M_board_168, e_M_board_170, e_M_board_173, e_M_board_176, e_M_board_177, e_M_board_180, e_M_board_182, e_M_board_185, e_M_board_186, e_M_board_187, e_M_board_190, e_M_board_192, e_M_board_195, e_M_board_197, e_M_board_200, e_M_board_203, e_M_board_205, e_M_board_208, e_M_board_210, sh_o_82, K_M_in, eq_true hb, eq_true ha, eq_true hs, M_asIs hR1 h1, pm_opt_some, pm_opt_none, pm_opt_if, Bool.false_eq_true, Bool.not_false, Bool.not_true, if_false, if_true, true_and, and_true, true_or, or_true, not_true_eq_false, not_false_eq_true, q10, q00, q01, q11, pk_v, pk_i, pk_l, pk_r]
          rw [hl', e_M_board_58]
          simp only [e_M_board_0, e_M_board_1, e_M_board_2, e_M_board_3, e_M_board_4, e_M_board_7, e_M_board_10, e_M_board_11, e_M_board_12, e_M_board_13, e_M_board_14, e_M_board_15, e_M_board_18, e_M_board_21, e_M_board_24, e_M_board_25, e_M_board_26, e_M_board_27, e_M_board_30, e_M_board_33, e_M_board_36, e_M_board_38, e_M_board_39, e_M_board_40, e_M_board_43, e_M_board_44, e_M_board_46, e_M_board_47, e_M_board_49, e_M_board_50, e_M_board_52, e_M_board_53, e_M_board_55, e_M_board_56, e_M_board_60, e_M_board_61, e_M_board_64, e_M_board_66, e_M_board_67, e_M_board_68, e_M_board_71, e_M_board_72, e_M_board_75, e_M_board_76, e_M_board_77, e_M_board_80, e_M_board_83, e_M_board_86, e_M_board_87, e_M_board_89, e_M_board_90, e_M_board_91, e_M_board_94, e_M_board_95, e_M_board_98, e_M_board_101, e_M_board_102, e_M_board_105, e_M_board_106, e_M_board_108, e_M_board_110, e_M_board_112, e_M_board_113, e_M_board_116, e_M_board_117, e_M_board_120, e_M_board_121, e_M_board_122, e_M_board_124, e_M_board_126, e_M_board_128, e_M_board_129, e_M_board_132, e_M_board_134, e_M_board_137, e_M_board_138, e_M_board_141, e_M_board_142, e_M_board_143, e_M_board_145, e_M_board_147, e_M_board_150, e_M_board_152, e_M_board_153, e_M_board_154, e_M_board_156, e_M_board_159, e_M_board_161, e_M_board_162, e_M_board_163, e_M_board_166, e_M_board_168, e_M_board_170, e_M_board_173, e_M_board_176, e_M_board_177, e_M_board_180, e_M_board_182, e_M_board_185, e_M_board_186, e_M_board_187, e_M_board_190, e_M_board_192, e_M_board_195, e_M_board_197, e_M_board_200, e_M_board_203, e_M_board_205, e_M_board_208, e_M_board_210, Int32.le_refl, pm_opt_some, pm_opt_none, pm_opt_if, Bool.false_eq_true, Bool.not_false, Bool.not_true, if_false, if_true, true_and, and_true, true_or, or_true, not_true_eq_false, not_false_eq_true, q10, q00, q01, q11, pk_v, pk_i, pk_l, pk_r]
          unfold boV
          by_cases q0 : b = 0
          · simp only [q0, pm_opt_some, pm_opt_none, pm_opt_if, Bool.false_eq_true, Bool.not_false, Bool.not_true, if_false, if_true, true_and, and_true, true_or, or_true, not_true_eq_false, not_false_eq_true, q10, q00, q01, q11, pk_v, pk_i, pk_l, pk_r]
          · by_cases q1 : b = 1
            · simp only [q1, pm_opt_some, pm_opt_none, pm_opt_if, Bool.false_eq_true, Bool.not_false, Bool.not_true, if_false, if_true, true_and, and_true, true_or, or_true, not_true_eq_false, not_false_eq_true, q10, q00, q01, q11, pk_v, pk_i, pk_l, pk_r]
            · by_cases q2 : (boE I s m).2.2.2.1 ≤ 999
              · have q3 : ¬ 999 < (boE I s m).2.2.2.1 := Int32.not_lt.mpr q2
                simp only [q0, q1, q2, q3, pm_opt_some, pm_opt_none, pm_opt_if, Bool.false_eq_true, Bool.not_false, Bool.not_true, if_false, if_true, true_and, and_true, true_or, or_true, not_true_eq_false, not_false_eq_true, q10, q00, q01, q11, pk_v, pk_i, pk_l, pk_r]
              · have q3 : 999 < (boE I s m).2.2.2.1 := Int32.not_le.mp q2
                simp only [q0, q1, q2, q3, pm_opt_some, pm_opt_none, pm_opt_if, Bool.false_eq_true, Bool.not_false, Bool.not_true, if_false, if_true, true_and, and_true, true_or, or_true, not_true_eq_false, not_false_eq_true, q10, q00, q01, q11, pk_v, pk_i, pk_l, pk_r]
      · exact Pair_q (v := .int (-2)) hR ⟨I, sfr_rf, K50 fun d' => by { show pm_V X (d' + 49) 17 0 [some (.ref 0), some (.int a), some (.int s), some (.int b), none, none, none, none, none, none, none] [] (pm_S0 ++ g, I, J) _; simp only [e_B_board_0, e_B_board_1, e_B_board_2, e_B_board_3, e_B_board_6, e_B_board_9, e_B_board_10, e_B_board_11, e_B_board_12, e_B_board_13, e_B_board_16, e_B_board_19, e_B_board_22, e_B_board_23, e_B_board_24, e_B_board_27, e_B_board_30, e_B_board_33, e_B_board_35, e_B_board_36, e_B_board_37, e_B_board_40, e_B_board_42, e_B_board_43, e_B_board_44, e_B_board_47, e_B_board_50, e_B_board_53, e_B_board_54, e_B_board_57, e_B_board_58, e_B_board_61, e_B_board_64, e_B_board_67, e_B_board_68, e_B_board_70, e_B_board_71, e_B_board_73, e_B_board_74, e_B_board_76, e_B_board_77, e_B_board_79, e_B_board_80, e_B_board_83, e_B_board_86, e_B_board_88, e_B_board_90, e_B_board_91, e_B_board_94, e_B_board_97, e_B_board_98, e_B_board_99, e_B_board_102, e_B_board_104, e_B_board_106, e_B_board_108, e_B_board_109, e_B_board_111, e_B_board_114, e_B_board_117, e_B_board_118, e_B_board_120, e_B_board_121, e_B_board_122, e_B_board_125, e_B_board_127, e_B_board_129, e_B_board_130, e_B_board_132, e_B_board_135, e_B_board_136, e_B_board_139, e_B_board_140, e_B_board_141, e_B_board_144, e_B_board_147, e_B_board_149, e_B_board_151, e_B_board_152, e_B_board_155, e_B_board_158, e_B_board_160, e_B_board_161, e_B_board_164, e_B_board_166, e_B_board_169, e_B_board_172, e_B_board_174, e_B_board_177, e_B_board_179, e_B_board_181, e_B_board_182, e_B_board_183, e_B_board_186, e_B_board_188, e_B_board_191, e_B_board_194, e_B_board_195, e_B_board_198, e_B_board_200, e_B_board_201, e_B_board_202, e_B_board_203, e_B_board_206, e_B_board_208, e_B_board_209, e_B_board_211, e_B_board_214, e_B_board_217, e_B_board_219, e_B_board_222, e_B_board_224, K_B_isCell, K_B_isWithin, K_B_isTape, K_B_isKind, eq_true hb, eq_true ha, eq_false hs, pm_opt_some, pm_opt_none, pm_opt_if, Bool.false_eq_true, Bool.not_false, Bool.not_true, if_false, if_true, true_and, and_true, true_or, or_true, not_true_eq_false, not_false_eq_true, q10, q00, q01, q11, pk_v, pk_i, pk_l, pk_r] }⟩ (fun I1 h1 hR1 => ⟨I1, sfr_rf, K50 fun d' => by { show pm_V X (d' + 49) 160 0 [some (.ref 82), some (.int a), some (.int s), some (.int b), none, none, none, none, none, none] [] (pm_S0 ++ g, I1, J) _; simp only [e_M_board_0, e_M_board_1, e_M_board_2, e_M_board_3, e_M_board_4, e_M_board_7, e_M_board_10, e_M_board_11, e_M_board_12, e_M_board_13, e_M_board_14, e_M_board_15, e_M_board_18, e_M_board_21, e_M_board_24, e_M_board_25, e_M_board_26, e_M_board_27, e_M_board_30, e_M_board_33, e_M_board_36, e_M_board_38, e_M_board_39, e_M_board_40, e_M_board_43, e_M_board_44, e_M_board_46, e_M_board_47, e_M_board_49, e_M_board_50, e_M_board_52, e_M_board_53, e_M_board_55, e_M_board_56, e_M_board_58, e_M_board_60, e_M_board_61, e_M_board_64, e_M_board_66, e_M_board_67, e_M_board_68, e_M_board_71, e_M_board_72, e_M_board_75, e_M_board_76, e_M_board_77, e_M_board_80, e_M_board_83, e_M_board_86, e_M_board_87, e_M_board_89, e_M_board_90, e_M_board_91, e_M_board_94, e_M_board_95, e_M_board_98, e_M_board_101, e_M_board_102, e_M_board_105, e_M_board_106, e_M_board_108, e_M_board_110, e_M_board_112, e_M_board_113, e_M_board_116, e_M_board_117, e_M_board_120, e_M_board_121, e_M_board_122, e_M_board_124, e_M_board_126, e_M_board_128, e_M_board_129, e_M_board_132, e_M_board_134, e_M_board_137, e_M_board_138, e_M_board_141, e_M_board_142, e_M_board_143, e_M_board_145, e_M_board_147, e_M_board_150, e_M_board_152, e_M_board_153, e_M_board_154, e_M_board_156, e_M_board_159, e_M_board_161, e_M_board_162, e_M_board_163, e_M_board_166, e_M_board_168, e_M_board_170, e_M_board_173, e_M_board_176, e_M_board_177, e_M_board_180, e_M_board_182, e_M_board_185, e_M_board_186, e_M_board_187, e_M_board_190, e_M_board_192, e_M_board_195, e_M_board_197, e_M_board_200, e_M_board_203, e_M_board_205, e_M_board_208, e_M_board_210, sh_o_82, K_M_isCell, K_M_in, K_M_isTape, eq_true hb, eq_true ha, eq_false hs, pm_opt_some, pm_opt_none, pm_opt_if, Bool.false_eq_true, Bool.not_false, Bool.not_true, if_false, if_true, true_and, and_true, true_or, or_true, not_true_eq_false, not_false_eq_true, q10, q00, q01, q11, pk_v, pk_i, pk_l, pk_r] }⟩)
    · exact Pair_q (v := .int (-2)) hR ⟨I, sfr_rf, K50 fun d' => by { show pm_V X (d' + 49) 17 0 [some (.ref 0), some (.int a), some (.int s), some (.int b), none, none, none, none, none, none, none] [] (pm_S0 ++ g, I, J) _; simp only [e_B_board_0, e_B_board_1, e_B_board_2, e_B_board_3, e_B_board_6, e_B_board_9, e_B_board_10, e_B_board_11, e_B_board_12, e_B_board_13, e_B_board_16, e_B_board_19, e_B_board_22, e_B_board_23, e_B_board_24, e_B_board_27, e_B_board_30, e_B_board_33, e_B_board_35, e_B_board_36, e_B_board_37, e_B_board_40, e_B_board_42, e_B_board_43, e_B_board_44, e_B_board_47, e_B_board_50, e_B_board_53, e_B_board_54, e_B_board_57, e_B_board_58, e_B_board_61, e_B_board_64, e_B_board_67, e_B_board_68, e_B_board_70, e_B_board_71, e_B_board_73, e_B_board_74, e_B_board_76, e_B_board_77, e_B_board_79, e_B_board_80, e_B_board_83, e_B_board_86, e_B_board_88, e_B_board_90, e_B_board_91, e_B_board_94, e_B_board_97, e_B_board_98, e_B_board_99, e_B_board_102, e_B_board_104, e_B_board_106, e_B_board_108, e_B_board_109, e_B_board_111, e_B_board_114, e_B_board_117, e_B_board_118, e_B_board_120, e_B_board_121, e_B_board_122, e_B_board_125, e_B_board_127, e_B_board_129, e_B_board_130, e_B_board_132, e_B_board_135, e_B_board_136, e_B_board_139, e_B_board_140, e_B_board_141, e_B_board_144, e_B_board_147, e_B_board_149, e_B_board_151, e_B_board_152, e_B_board_155, e_B_board_158, e_B_board_160, e_B_board_161, e_B_board_164, e_B_board_166, e_B_board_169, e_B_board_172, e_B_board_174, e_B_board_177, e_B_board_179, e_B_board_181, e_B_board_182, e_B_board_183, e_B_board_186, e_B_board_188, e_B_board_191, e_B_board_194, e_B_board_195, e_B_board_198, e_B_board_200, e_B_board_201, e_B_board_202, e_B_board_203, e_B_board_206, e_B_board_208, e_B_board_209, e_B_board_211, e_B_board_214, e_B_board_217, e_B_board_219, e_B_board_222, e_B_board_224, K_B_isCell, K_B_isWithin, K_B_isTape, K_B_isKind, eq_true hb, eq_false ha, pm_opt_some, pm_opt_none, pm_opt_if, Bool.false_eq_true, Bool.not_false, Bool.not_true, if_false, if_true, true_and, and_true, true_or, or_true, not_true_eq_false, not_false_eq_true, q10, q00, q01, q11, pk_v, pk_i, pk_l, pk_r] }⟩ (fun I1 h1 hR1 => ⟨I1, sfr_rf, K50 fun d' => by { show pm_V X (d' + 49) 160 0 [some (.ref 82), some (.int a), some (.int s), some (.int b), none, none, none, none, none, none] [] (pm_S0 ++ g, I1, J) _; simp only [e_M_board_0, e_M_board_1, e_M_board_2, e_M_board_3, e_M_board_4, e_M_board_7, e_M_board_10, e_M_board_11, e_M_board_12, e_M_board_13, e_M_board_14, e_M_board_15, e_M_board_18, e_M_board_21, e_M_board_24, e_M_board_25, e_M_board_26, e_M_board_27, e_M_board_30, e_M_board_33, e_M_board_36, e_M_board_38, e_M_board_39, e_M_board_40, e_M_board_43, e_M_board_44, e_M_board_46, e_M_board_47, e_M_board_49, e_M_board_50, e_M_board_52, e_M_board_53, e_M_board_55, e_M_board_56, e_M_board_58, e_M_board_60, e_M_board_61, e_M_board_64, e_M_board_66, e_M_board_67, e_M_board_68, e_M_board_71, e_M_board_72, e_M_board_75, e_M_board_76, e_M_board_77, e_M_board_80, e_M_board_83, e_M_board_86, e_M_board_87, e_M_board_89, e_M_board_90, e_M_board_91, e_M_board_94, e_M_board_95, e_M_board_98, e_M_board_101, e_M_board_102, e_M_board_105, e_M_board_106, e_M_board_108, e_M_board_110, e_M_board_112, e_M_board_113, e_M_board_116, e_M_board_117, e_M_board_120, e_M_board_121, e_M_board_122, e_M_board_124, e_M_board_126, e_M_board_128, e_M_board_129, e_M_board_132, e_M_board_134, e_M_board_137, e_M_board_138, e_M_board_141, e_M_board_142, e_M_board_143, e_M_board_145, e_M_board_147, e_M_board_150, e_M_board_152, e_M_board_153, e_M_board_154, e_M_board_156, e_M_board_159, e_M_board_161, e_M_board_162, e_M_board_163, e_M_board_166, e_M_board_168, e_M_board_170, e_M_board_173, e_M_board_176, e_M_board_177, e_M_board_180, e_M_board_182, e_M_board_185, e_M_board_186, e_M_board_187, e_M_board_190, e_M_board_192, e_M_board_195, e_M_board_197, e_M_board_200, e_M_board_203, e_M_board_205, e_M_board_208, e_M_board_210, sh_o_82, K_M_isCell, K_M_in, K_M_isTape, eq_true hb, eq_false ha, pm_opt_some, pm_opt_none, pm_opt_if, Bool.false_eq_true, Bool.not_false, Bool.not_true, if_false, if_true, true_and, and_true, true_or, or_true, not_true_eq_false, not_false_eq_true, q10, q00, q01, q11, pk_v, pk_i, pk_l, pk_r] }⟩)
  · exact Pair_q (v := .int (-1)) hR ⟨I, sfr_rf, K50 fun d' => by { show pm_V X (d' + 49) 17 0 [some (.ref 0), some (.int a), some (.int s), some (.int b), none, none, none, none, none, none, none] [] (pm_S0 ++ g, I, J) _; simp only [e_B_board_0, e_B_board_1, e_B_board_2, e_B_board_3, e_B_board_6, e_B_board_9, e_B_board_10, e_B_board_11, e_B_board_12, e_B_board_13, e_B_board_16, e_B_board_19, e_B_board_22, e_B_board_23, e_B_board_24, e_B_board_27, e_B_board_30, e_B_board_33, e_B_board_35, e_B_board_36, e_B_board_37, e_B_board_40, e_B_board_42, e_B_board_43, e_B_board_44, e_B_board_47, e_B_board_50, e_B_board_53, e_B_board_54, e_B_board_57, e_B_board_58, e_B_board_61, e_B_board_64, e_B_board_67, e_B_board_68, e_B_board_70, e_B_board_71, e_B_board_73, e_B_board_74, e_B_board_76, e_B_board_77, e_B_board_79, e_B_board_80, e_B_board_83, e_B_board_86, e_B_board_88, e_B_board_90, e_B_board_91, e_B_board_94, e_B_board_97, e_B_board_98, e_B_board_99, e_B_board_102, e_B_board_104, e_B_board_106, e_B_board_108, e_B_board_109, e_B_board_111, e_B_board_114, e_B_board_117, e_B_board_118, e_B_board_120, e_B_board_121, e_B_board_122, e_B_board_125, e_B_board_127, e_B_board_129, e_B_board_130, e_B_board_132, e_B_board_135, e_B_board_136, e_B_board_139, e_B_board_140, e_B_board_141, e_B_board_144, e_B_board_147, e_B_board_149, e_B_board_151, e_B_board_152, e_B_board_155, e_B_board_158, e_B_board_160, e_B_board_161, e_B_board_164, e_B_board_166, e_B_board_169, e_B_board_172, e_B_board_174, e_B_board_177, e_B_board_179, e_B_board_181, e_B_board_182, e_B_board_183, e_B_board_186, e_B_board_188, e_B_board_191, e_B_board_194, e_B_board_195, e_B_board_198, e_B_board_200, e_B_board_201, e_B_board_202, e_B_board_203, e_B_board_206, e_B_board_208, e_B_board_209, e_B_board_211, e_B_board_214, e_B_board_217, e_B_board_219, e_B_board_222, e_B_board_224, K_B_isCell, K_B_isWithin, K_B_isTape, K_B_isKind, eq_false hb, pm_opt_some, pm_opt_none, pm_opt_if, Bool.false_eq_true, Bool.not_false, Bool.not_true, if_false, if_true, true_and, and_true, true_or, or_true, not_true_eq_false, not_false_eq_true, q10, q00, q01, q11, pk_v, pk_i, pk_l, pk_r] }⟩ (fun I1 h1 hR1 => ⟨I1, sfr_rf, K50 fun d' => by { show pm_V X (d' + 49) 160 0 [some (.ref 82), some (.int a), some (.int s), some (.int b), none, none, none, none, none, none] [] (pm_S0 ++ g, I1, J) _; simp only [e_M_board_0, e_M_board_1, e_M_board_2, e_M_board_3, e_M_board_4, e_M_board_7, e_M_board_10, e_M_board_11, e_M_board_12, e_M_board_13, e_M_board_14, e_M_board_15, e_M_board_18, e_M_board_21, e_M_board_24, e_M_board_25, e_M_board_26, e_M_board_27, e_M_board_30, e_M_board_33, e_M_board_36, e_M_board_38, e_M_board_39, e_M_board_40, e_M_board_43, e_M_board_44, e_M_board_46, e_M_board_47, e_M_board_49, e_M_board_50, e_M_board_52, e_M_board_53, e_M_board_55, e_M_board_56, e_M_board_58, e_M_board_60, e_M_board_61, e_M_board_64, e_M_board_66, e_M_board_67, e_M_board_68, e_M_board_71, e_M_board_72, e_M_board_75, e_M_board_76, e_M_board_77, e_M_board_80, e_M_board_83, e_M_board_86, e_M_board_87, e_M_board_89, e_M_board_90, e_M_board_91, e_M_board_94, e_M_board_95, e_M_board_98, e_M_board_101, e_M_board_102, e_M_board_105, e_M_board_106, e_M_board_108, e_M_board_110, e_M_board_112, e_M_board_113, e_M_board_116, e_M_board_117, e_M_board_120, e_M_board_121, e_M_board_122, e_M_board_124, e_M_board_126, e_M_board_128, e_M_board_129, e_M_board_132, e_M_board_134, e_M_board_137, e_M_board_138, e_M_board_141, e_M_board_142, e_M_board_143, e_M_board_145, e_M_board_147, e_M_board_150, e_M_board_152, e_M_board_153, e_M_board_154, e_M_board_156, e_M_board_159, e_M_board_161, e_M_board_162, e_M_board_163, e_M_board_166, e_M_board_168, e_M_board_170, e_M_board_173, e_M_board_176, e_M_board_177, e_M_board_180, e_M_board_182, e_M_board_185, e_M_board_186, e_M_board_187, e_M_board_190, e_M_board_192, e_M_board_195, e_M_board_197, e_M_board_200, e_M_board_203, e_M_board_205, e_M_board_208, e_M_board_210, sh_o_82, K_M_isCell, K_M_in, K_M_isTape, eq_false hb, pm_opt_some, pm_opt_none, pm_opt_if, Bool.false_eq_true, Bool.not_false, Bool.not_true, if_false, if_true, true_and, and_true, true_or, or_true, not_true_eq_false, not_false_eq_true, q10, q00, q01, q11, pk_v, pk_i, pk_l, pk_r] }⟩)
end P51
