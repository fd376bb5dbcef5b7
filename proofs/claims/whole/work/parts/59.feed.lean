/-! pairs of calls: feed -/
/-- a text's row a and its length at k of o -/
def FD (I : Nat → Nat → Int32) (a o k : Nat) (F : Nat → Int32) (L : Nat) : Nat → Nat → Int32 := pm_w (pm_up I a F) o k (nI L)
def byF (x : Int32) (j : Nat) : Int32 := (x >>> ((8 * nI j) &&& 31)).toInt8.toInt32
def fdF (x : Int32) : Nat → Nat → (Nat → Int32) → Nat → Int32
  | 0, _, F => F
  | j + 1, L, F => fdF x j (L + 1) (upd F L (byF x j))
section P59
variable {X : pm_X} {d : Nat} {P Q : pm_O → Prop} {g : List pm_S} {S : List pm_S} {I I' I1 B C : Nat → Nat → Int32} {J J' : Nat → Nat → Int64} {j w m n l k o L : Nat} {a b c s x y v : Int32} {F : Nat → Int32}
theorem by_eq {u v : Int32} (h1 : u.toBitVec = x.toBitVec >>> k) (h2 : v.toBitVec = x.toBitVec.sshiftRight k) (hk : k ≤ 24) : u.toInt8 = v.toInt8 := by
  refine Int8.toBitVec_inj.mp ?_
  rw [Int32.toBitVec_toInt8, Int32.toBitVec_toInt8, h1, h2]
  refine BitVec.eq_of_getLsbD_eq (fun i hi => ?_)
  rw [BitVec.getLsbD_signExtend, BitVec.getLsbD_signExtend, BitVec.getLsbD_ushiftRight, BitVec.getLsbD_sshiftRight]
  have a1 : i < 32 := by omega
  have a2 : ¬ 32 ≤ i := by omega
  have a3 : k + i < 32 := by omega
  simp only [a1, a2, a3, decide_true, decide_false, if_true, Bool.not_false, Bool.true_and]
theorem by_us (hj : j < 4) : (x.toUInt32 >>> ((8 * nI j).toUInt32 &&& Int32.toUInt32 31)).toInt32.toInt8.toInt32 = byF x j := by
  unfold byF
  match j, hj with
  | 0, _ =>
    rw [show (8 : Int32) * nI 0 = 0 from rfl]
    exact congrArg Int8.toInt32 (by_eq (k := 0) rfl rfl (by decide))
  | 1, _ =>
    rw [show (8 : Int32) * nI 1 = 8 from rfl]
    exact congrArg Int8.toInt32 (by_eq (k := 8) rfl rfl (by decide))
  | 2, _ =>
    rw [show (8 : Int32) * nI 2 = 16 from rfl]
    exact congrArg Int8.toInt32 (by_eq (k := 16) rfl rfl (by decide))
  | 3, _ =>
    rw [show (8 : Int32) * nI 3 = 24 from rfl]
    exact congrArg Int8.toInt32 (by_eq (k := 24) rfl rfl (by decide))
theorem by_id : (byF x j).toInt8.toInt32 = byF x j := by
  unfold byF
  rw [Int8.toInt8_toInt32]
theorem nar_b {z : Int8} : vp_nar .byte z.toInt32 = z.toInt32 := by
  have e : z.toInt32 = z.toInt32.toInt8.toInt32 := by rw [Int8.toInt8_toInt32]
  unfold vp_nar
  rw [e, pk_nb]
theorem nar_by : vp_nar .byte (byF x j) = byF x j := nar_b
theorem FD_o (h : ¬ o = j) : FD I j o k F L o k = nI L := by
  unfold FD
  rw [pw_eq, upd_app, if_pos rfl]
theorem FD_a (h : ¬ j = o) : FD I j o k F L j = F := by
  unfold FD
  rw [pw_ne h, pu_eq]
theorem FD_w (h : ¬ j = o) : pm_w (FD I j o k F L) j m v = FD I j o k (upd F m v) L := by
  unfold FD
  funext q i
  simp only [pm_w_app]
  unfold pm_up upd
  by_cases e : q = j
  · subst e
    simp only [h, true_and, false_and, if_false, if_true]
  · simp only [e, false_and, if_false]
theorem FD_w2 : pm_w (FD I j o k F L) o k (nI m) = FD I j o k F m := by
  unfold FD
  funext q i
  simp only [pm_w_app]
  by_cases e : q = o ∧ i = k
  · simp only [e, and_self, if_true]
  · simp only [e, if_false]
theorem FD_0 (h : I o k = nI L) : FD I j o k (I j) L = I := by
  unfold FD
  rw [pu_self]
  funext q i
  rw [pm_w_app]
  by_cases e : q = o ∧ i = k
  · rw [if_pos e, e.1, e.2, h]
  · rw [if_neg e]
theorem B_fd_loop : ∀ (i L : Nat) (F : Nat → Int32), i ≤ 4 → L + i ≤ 100 → ∀ (d : Nat) (Q : pm_O → Prop), pm_V X d 5 30 [some (.ref 0), some (.int x), some (.int b), some (.int (nI i + (-1)))] [] (pm_S0 ++ g, FD I 25 0 4 F L, J) Q = Q (some (.int (nI (L + i))), (pm_S0 ++ g, FD I 25 0 4 (fdF x i L F) (L + i), J)) := by
  intro i
  induction i with
  | zero =>
    intro L F hi hL d Q
    have e4 : FD I 25 0 4 F L 0 4 = nI L := FD_o (by decide)
    have h0 : (nI 0 + (-1) < 0) = True := by decide
    rw [e_B_feed_30]
    simp only [e_B_feed_0, e_B_feed_1, e_B_feed_2, e_B_feed_3, e_B_feed_6, e_B_feed_9, e_B_feed_11, e_B_feed_12, e_B_feed_13, e_B_feed_16, e_B_feed_17, e_B_feed_18, e_B_feed_20, e_B_feed_23, e_B_feed_25, e_B_feed_26, e_B_feed_27, e_B_feed_28, e_B_feed_29, e_B_feed_31, e_B_feed_34, e_B_feed_35, e_B_feed_38, e_B_feed_39, e_B_feed_42, e_B_feed_43, e_B_feed_45, e_B_feed_46, e_B_feed_47, e_B_feed_48, e_B_feed_49, e_B_feed_50, e_B_feed_51, e_B_feed_52, e_B_feed_55, e_B_feed_56, e_B_feed_57, e_B_feed_60, e_B_feed_63, e_B_feed_66, e_B_feed_67, e_B_feed_70, h0, sh_o_0, e4, pm_opt_some, pm_opt_none, pm_opt_if, Bool.false_eq_true, Bool.not_false, Bool.not_true, if_false, if_true, true_and, and_true, true_or, or_true, not_true_eq_false, not_false_eq_true, q10, q00, q01, q11, pk_v, pk_i, pk_l, pk_r]
    rfl
  | succ i ih =>
    intro L F hi hL d Q
    have e4 : ∀ F, FD I 25 0 4 F L 0 4 = nI L := fun F => FD_o (by decide)
    have h0 : (nI i < 0) = False := eq_false (nI_pos (by omega))
    have hb := bad_nI (k := L) (n := 100) (by omega) (by decide)
    have hc := nI_clamp (n := L) (by omega)
    have f1 : ∀ F v, pm_w (FD I 25 0 4 F L) 25 L v = FD I 25 0 4 (upd F L v) L := fun F v => FD_w (by decide)
    have f2 : ∀ F m, pm_w (FD I 25 0 4 F L) 0 4 (nI m) = FD I 25 0 4 F m := fun F m => FD_w2
    have bu := by_us (x := x) (show i < 4 by omega)
    rw [pk_m1, e_B_feed_30]
    simp only [e_B_feed_0, e_B_feed_1, e_B_feed_2, e_B_feed_3, e_B_feed_6, e_B_feed_9, e_B_feed_11, e_B_feed_12, e_B_feed_13, e_B_feed_16, e_B_feed_17, e_B_feed_18, e_B_feed_20, e_B_feed_23, e_B_feed_25, e_B_feed_26, e_B_feed_27, e_B_feed_28, e_B_feed_29, e_B_feed_31, e_B_feed_34, e_B_feed_35, e_B_feed_38, e_B_feed_39, e_B_feed_42, e_B_feed_43, e_B_feed_45, e_B_feed_46, e_B_feed_47, e_B_feed_48, e_B_feed_49, e_B_feed_50, e_B_feed_51, e_B_feed_52, e_B_feed_55, e_B_feed_56, e_B_feed_57, e_B_feed_60, e_B_feed_63, e_B_feed_66, e_B_feed_67, e_B_feed_70, h0, sh_o_0, sh_r_0_3, sh_w_25, e4, hb, hc, bu, nar_by, f1, nI_1, f2, pm_opt_some, pm_opt_none, pm_opt_if, Bool.false_eq_true, Bool.not_false, Bool.not_true, if_false, if_true, true_and, and_true, true_or, or_true, not_true_eq_false, not_false_eq_true, q10, q00, q01, q11, pk_v, pk_i, pk_l, pk_r]
    rw [ih (L + 1) _ (by omega) (by omega), show L + 1 + i = L + (i + 1) by omega]
    rfl
theorem M_fd_loop : ∀ (i L : Nat) (F : Nat → Int32), i ≤ 4 → L + i ≤ 100 → ∀ (d : Nat) (Q : pm_O → Prop), pm_V X d 117 31 [some (.ref 82), some (.int x), some (.int b), some (.int (nI i + (-1)))] [] (pm_S0 ++ g, FD I 90 82 11 F L, J) Q = Q (some (.int (nI (L + i))), (pm_S0 ++ g, FD I 90 82 11 (fdF x i L F) (L + i), J)) := by
  intro i
  induction i with
  | zero =>
    intro L F hi hL d Q
    have e4 : FD I 90 82 11 F L 82 11 = nI L := FD_o (by decide)
    have h0 : (nI 0 + (-1) < 0) = True := by decide
    rw [e_M_feed_31]
    simp only [e_M_feed_0, e_M_feed_1, e_M_feed_2, e_M_feed_3, e_M_feed_4, e_M_feed_7, e_M_feed_10, e_M_feed_12, e_M_feed_13, e_M_feed_14, e_M_feed_17, e_M_feed_18, e_M_feed_19, e_M_feed_21, e_M_feed_24, e_M_feed_26, e_M_feed_27, e_M_feed_28, e_M_feed_29, e_M_feed_30, e_M_feed_32, e_M_feed_35, e_M_feed_36, e_M_feed_39, e_M_feed_40, e_M_feed_43, e_M_feed_44, e_M_feed_46, e_M_feed_47, e_M_feed_48, e_M_feed_49, e_M_feed_50, e_M_feed_51, e_M_feed_52, e_M_feed_53, e_M_feed_56, e_M_feed_57, e_M_feed_58, e_M_feed_61, e_M_feed_64, e_M_feed_67, e_M_feed_68, e_M_feed_71, h0, sh_o_82, e4, pm_opt_some, pm_opt_none, pm_opt_if, Bool.false_eq_true, Bool.not_false, Bool.not_true, if_false, if_true, true_and, and_true, true_or, or_true, not_true_eq_false, not_false_eq_true, q10, q00, q01, q11, pk_v, pk_i, pk_l, pk_r]
    rfl
  | succ i ih =>
    intro L F hi hL d Q
    have e4 : ∀ F, FD I 90 82 11 F L 82 11 = nI L := fun F => FD_o (by decide)
    have h0 : (nI i < 0) = False := eq_false (nI_pos (by omega))
    have hb := bad_nI (k := L) (n := 100) (by omega) (by decide)
    have hc := nI_clamp (n := L) (by omega)
    have f1 : ∀ F v, pm_w (FD I 90 82 11 F L) 90 L v = FD I 90 82 11 (upd F L v) L := fun F v => FD_w (by decide)
    have f2 : ∀ F m, pm_w (FD I 90 82 11 F L) 82 11 (nI m) = FD I 90 82 11 F m := fun F m => FD_w2
    have bu : (x >>> ((8 * nI i) &&& 31)).toInt8.toInt32 = byF x i := rfl
    rw [pk_m1, e_M_feed_31]
    simp only [e_M_feed_0, e_M_feed_1, e_M_feed_2, e_M_feed_3, e_M_feed_4, e_M_feed_7, e_M_feed_10, e_M_feed_12, e_M_feed_13, e_M_feed_14, e_M_feed_17, e_M_feed_18, e_M_feed_19, e_M_feed_21, e_M_feed_24, e_M_feed_26, e_M_feed_27, e_M_feed_28, e_M_feed_29, e_M_feed_30, e_M_feed_32, e_M_feed_35, e_M_feed_36, e_M_feed_39, e_M_feed_40, e_M_feed_43, e_M_feed_44, e_M_feed_46, e_M_feed_47, e_M_feed_48, e_M_feed_49, e_M_feed_50, e_M_feed_51, e_M_feed_52, e_M_feed_53, e_M_feed_56, e_M_feed_57, e_M_feed_58, e_M_feed_61, e_M_feed_64, e_M_feed_67, e_M_feed_68, e_M_feed_71, h0, sh_o_82, sh_r_82_14, sh_w_90, e4, hb, hc, bu, f1, nI_1, f2, pm_opt_some, pm_opt_none, pm_opt_if, Bool.false_eq_true, Bool.not_false, Bool.not_true, if_false, if_true, true_and, and_true, true_or, or_true, not_true_eq_false, not_false_eq_true, q10, q00, q01, q11, pk_v, pk_i, pk_l, pk_r]
    rw [ih (L + 1) _ (by omega) (by omega), show L + 1 + i = L + (i + 1) by omega]
    rfl
theorem fdF_by : ∀ (i L : Nat) (F : Nat → Int32), (∀ k, (F k).toInt8.toInt32 = F k) → ∀ k, (fdF x i L F k).toInt8.toInt32 = fdF x i L F k := by
  intro i
  induction i with
  | zero => intro L F h k; exact h k
  | succ i ih =>
    intro L F h k
    refine ih (L + 1) _ (fun q => ?_) k
    rw [upd_app]
    by_cases e : q = L
    · rw [if_pos e]
      exact by_id
    · rw [if_neg e]
      exact h q
theorem Pair_feed (hR : Rel I J) : Pair X 5 117 [.int x, .int b] g I J := by
  obtain ⟨r1, r2, r3, r4, r5, r6, r7, r8⟩ := id hR
  obtain ⟨⟨l, hl, el⟩, htx, hk01, hran⟩ := id r7
  have e11 : I 82 11 = nI l := r3.2.2.1.trans el
  by_cases hb : 0 ≤ b ∧ b ≤ 4
  · obtain ⟨m, hm, rfl⟩ := in_of (m := 4) rfl hb
    by_cases hf : l + m ≤ 100
    · have hle : (nI (l + m) ≤ 100) = True := by
        rw [show (100 : Int32) = nI 100 from rfl]
        exact eq_true ((nI_leI (by omega) (by decide)).mpr hf)
      have hs : nI m - 1 = nI m + (-1) := Int32.sub_eq_add_neg _ _
      have lB := B_fd_loop (X := X) (g := g) (I := I) (J := J) (x := x) (b := nI m) m l (I 25) hm hf
      rw [FD_0 (I := I) (o := 0) (k := 4) el] at lB
      have hM0 : FD I 25 0 4 (fdF x m l (I 25)) (l + m) 82 11 = nI l := by
        unfold FD
        rw [pw_ne (by decide), pu_ne (by decide)]
        exact e11
      have hM1 : FD I 25 0 4 (fdF x m l (I 25)) (l + m) 90 = I 25 := by
        unfold FD
        rw [pw_ne (by decide), pu_ne (by decide)]
        exact r3.1.1
      have lM := M_fd_loop (X := X) (g := g) (I := FD I 25 0 4 (fdF x m l (I 25)) (l + m)) (J := J) (x := x) (b := nI m) m l (I 25) hm hf
      have e0 := FD_0 (j := 90) (I := FD I 25 0 4 (fdF x m l (I 25)) (l + m)) (o := 82) (k := 11) hM0
      rw [hM1] at e0
      rw [e0] at lM
      refine ⟨.int (nI (l + m)), g, FD I 25 0 4 (fdF x m l (I 25)) (l + m), J, FD (FD I 25 0 4 (fdF x m l (I 25)) (l + m)) 90 82 11 (fdF x m l (I 25)) (l + m), J, ?_, Or.inl rfl, rfl, K50 fun d' => ?_, K50 fun d' => ?_⟩
      · have all : ∀ q, ¬ q = 0 → ¬ q = 25 → ¬ q = 82 → ¬ q = 90 → FD (FD I 25 0 4 (fdF x m l (I 25)) (l + m)) 90 82 11 (fdF x m l (I 25)) (l + m) q = I q := by
          intro q h1 h2 h3 h4
          unfold FD
          rw [pw_ne h3, pu_ne h4, pw_ne h1, pu_ne h2]
        have a82 : ∀ k, ¬ k = 11 → FD (FD I 25 0 4 (fdF x m l (I 25)) (l + m)) 90 82 11 (fdF x m l (I 25)) (l + m) 82 k = I 82 k := by
          intro k hk
          unfold FD
          rw [pw_eq, upd_app, if_neg hk, pu_ne (by decide), pw_ne (by decide), pu_ne (by decide)]
        have a11 : FD (FD I 25 0 4 (fdF x m l (I 25)) (l + m)) 90 82 11 (fdF x m l (I 25)) (l + m) 82 11 = nI (l + m) := FD_o (by decide)
        have a90 : FD (FD I 25 0 4 (fdF x m l (I 25)) (l + m)) 90 82 11 (fdF x m l (I 25)) (l + m) 90 = fdF x m l (I 25) := FD_a (by decide)
        have a25 : FD (FD I 25 0 4 (fdF x m l (I 25)) (l + m)) 90 82 11 (fdF x m l (I 25)) (l + m) 25 = fdF x m l (I 25) := by
          unfold FD
          rw [pw_ne (by decide), pu_ne (by decide), pw_ne (by decide), pu_eq]
        have a0 : ∀ k, ¬ k = 4 → FD (FD I 25 0 4 (fdF x m l (I 25)) (l + m)) 90 82 11 (fdF x m l (I 25)) (l + m) 0 k = I 0 k := by
          intro k hk
          unfold FD
          rw [pw_ne (by decide), pu_ne (by decide), pw_eq, upd_app, if_neg hk, pu_ne (by decide)]
        have a04 : FD (FD I 25 0 4 (fdF x m l (I 25)) (l + m)) 90 82 11 (fdF x m l (I 25)) (l + m) 0 4 = nI (l + m) := by
          unfold FD
          rw [pw_ne (by decide), pu_ne (by decide), pw_eq, upd_app, if_pos rfl]
        generalize FD (FD I 25 0 4 (fdF x m l (I 25)) (l + m)) 90 82 11 (fdF x m l (I 25)) (l + m) = I2 at all a82 a11 a90 a25 a0 a04
        refine Rel_upd (L := [0, 25, 82, 90]) hR ?_ ?_ ?_ ?_ ?_ ?_ ?_ (by decide) (by decide) (a0 7 (by decide))
        · unfold REn at r1 ⊢
          simp only [all, a82, Nat.reduceEqDiff, not_false_eq_true]
          exact r1
        · unfold REk at r2 ⊢
          simp only [all, a82, Nat.reduceEqDiff, not_false_eq_true]
          exact r2
        · unfold REo at r3 ⊢
          simp only [all, a82, a11, a90, a25, a0, a04, Nat.reduceEqDiff, not_false_eq_true, r3, and_self]
        · unfold RBn at r4 ⊢
          simp only [all, a0, Nat.reduceEqDiff, not_false_eq_true]
          exact r4
        · unfold RBk at r5 ⊢
          simp only [all, a0, Nat.reduceEqDiff, not_false_eq_true]
          exact r5
        · unfold RX
          rw [a04, a25, a0 2 (by decide), all 33 (by decide) (by decide) (by decide) (by decide)]
          exact ⟨⟨l + m, hf, rfl⟩, fdF_by m l _ htx, hk01, hran⟩
        · intro q hq
          simp only [List.contains_cons, List.contains_nil, Bool.or_false, Bool.or_eq_false_iff, beq_eq_false_iff_ne, ne_eq] at hq
          exact all q hq.1 hq.2.1 hq.2.2.1 hq.2.2.2
      · show pm_V X (d' + 49) 5 0 [some (.ref 0), some (.int x), some (.int (nI m)), none] [] (pm_S0 ++ g, I, J) _
        simp only [e_B_feed_0, e_B_feed_1, e_B_feed_2, e_B_feed_3, e_B_feed_6, e_B_feed_9, e_B_feed_11, e_B_feed_12, e_B_feed_13, e_B_feed_16, e_B_feed_17, e_B_feed_18, e_B_feed_20, e_B_feed_23, e_B_feed_25, e_B_feed_26, e_B_feed_27, e_B_feed_28, e_B_feed_29, e_B_feed_31, e_B_feed_34, e_B_feed_35, e_B_feed_38, e_B_feed_39, e_B_feed_42, e_B_feed_43, e_B_feed_45, e_B_feed_46, e_B_feed_47, e_B_feed_48, e_B_feed_49, e_B_feed_50, e_B_feed_51, e_B_feed_52, e_B_feed_55, e_B_feed_56, e_B_feed_57, e_B_feed_60, e_B_feed_63, e_B_feed_66, e_B_feed_67, e_B_feed_70, K_B_isWithin, eq_true hb, sh_o_0, el, nI_add, hle, hs, lB, pm_opt_some, pm_opt_none, pm_opt_if, Bool.false_eq_true, Bool.not_false, Bool.not_true, if_false, if_true, true_and, and_true, true_or, or_true, not_true_eq_false, not_false_eq_true, q10, q00, q01, q11, pk_v, pk_i, pk_l, pk_r]
      · show pm_V X (d' + 49) 117 0 [some (.ref 82), some (.int x), some (.int (nI m)), none] [] (pm_S0 ++ g, _, J) _
        simp only [e_M_feed_0, e_M_feed_1, e_M_feed_2, e_M_feed_3, e_M_feed_4, e_M_feed_7, e_M_feed_10, e_M_feed_12, e_M_feed_13, e_M_feed_14, e_M_feed_17, e_M_feed_18, e_M_feed_19, e_M_feed_21, e_M_feed_24, e_M_feed_26, e_M_feed_27, e_M_feed_28, e_M_feed_29, e_M_feed_30, e_M_feed_32, e_M_feed_35, e_M_feed_36, e_M_feed_39, e_M_feed_40, e_M_feed_43, e_M_feed_44, e_M_feed_46, e_M_feed_47, e_M_feed_48, e_M_feed_49, e_M_feed_50, e_M_feed_51, e_M_feed_52, e_M_feed_53, e_M_feed_56, e_M_feed_57, e_M_feed_58, e_M_feed_61, e_M_feed_64, e_M_feed_67, e_M_feed_68, e_M_feed_71, sh_o_82, K_M_in, eq_true hb, hM0, nI_add, hle, hs, lM, pm_opt_some, pm_opt_none, pm_opt_if, Bool.false_eq_true, Bool.not_false, Bool.not_true, if_false, if_true, true_and, and_true, true_or, or_true, not_true_eq_false, not_false_eq_true, q10, q00, q01, q11, pk_v, pk_i, pk_l, pk_r]
    · have hle : (nI (l + m) ≤ 100) = False := by
        rw [show (100 : Int32) = nI 100 from rfl]
        exact eq_false (fun z => hf ((nI_leI (by omega) (by decide)).mp z))
      refine Pair_q (v := .int (-4)) hR ⟨I, sfr_rf, K50 fun d' => ?_⟩ (fun I1 h1 hR1 => ⟨I1, sfr_rf, K50 fun d' => ?_⟩)
      · show pm_V X (d' + 49) 5 0 [some (.ref 0), some (.int x), some (.int (nI m)), none] [] (pm_S0 ++ g, I, J) _
        simp only [e_B_feed_0, e_B_feed_1, e_B_feed_2, e_B_feed_3, e_B_feed_6, e_B_feed_9, e_B_feed_11, e_B_feed_12, e_B_feed_13, e_B_feed_16, e_B_feed_17, e_B_feed_18, e_B_feed_20, e_B_feed_23, e_B_feed_25, e_B_feed_27, e_B_feed_28, e_B_feed_29, e_B_feed_31, e_B_feed_34, e_B_feed_35, e_B_feed_38, e_B_feed_39, e_B_feed_42, e_B_feed_43, e_B_feed_45, e_B_feed_46, e_B_feed_47, e_B_feed_48, e_B_feed_49, e_B_feed_50, e_B_feed_51, e_B_feed_52, e_B_feed_55, e_B_feed_56, e_B_feed_57, e_B_feed_60, e_B_feed_63, e_B_feed_66, e_B_feed_67, e_B_feed_70, K_B_isWithin, eq_true hb, sh_o_0, el, nI_add, hle, pm_opt_some, pm_opt_none, pm_opt_if, Bool.false_eq_true, Bool.not_false, Bool.not_true, if_false, if_true, true_and, and_true, true_or, or_true, not_true_eq_false, not_false_eq_true, q10, q00, q01, q11, pk_v, pk_i, pk_l, pk_r]
      · have e' : I1 82 11 = nI l := (sfr_82 h1 (by decide)).trans e11
        show pm_V X (d' + 49) 117 0 [some (.ref 82), some (.int x), some (.int (nI m)), none] [] (pm_S0 ++ g, I1, J) _
        simp only [e_M_feed_0, e_M_feed_1, e_M_feed_2, e_M_feed_3, e_M_feed_4, e_M_feed_7, e_M_feed_10, e_M_feed_12, e_M_feed_13, e_M_feed_14, e_M_feed_17, e_M_feed_18, e_M_feed_19, e_M_feed_21, e_M_feed_24, e_M_feed_26, e_M_feed_28, e_M_feed_29, e_M_feed_30, e_M_feed_32, e_M_feed_35, e_M_feed_36, e_M_feed_39, e_M_feed_40, e_M_feed_43, e_M_feed_44, e_M_feed_46, e_M_feed_47, e_M_feed_48, e_M_feed_49, e_M_feed_50, e_M_feed_51, e_M_feed_52, e_M_feed_53, e_M_feed_56, e_M_feed_57, e_M_feed_58, e_M_feed_61, e_M_feed_64, e_M_feed_67, e_M_feed_68, e_M_feed_71, sh_o_82, K_M_in, eq_true hb, e', nI_add, hle, pm_opt_some, pm_opt_none, pm_opt_if, Bool.false_eq_true, Bool.not_false, Bool.not_true, if_false, if_true, true_and, and_true, true_or, or_true, not_true_eq_false, not_false_eq_true, q10, q00, q01, q11, pk_v, pk_i, pk_l, pk_r]
  · refine Pair_q (v := .int (-2)) hR ⟨I, sfr_rf, K50 fun d' => ?_⟩ (fun I1 h1 hR1 => ⟨I1, sfr_rf, K50 fun d' => ?_⟩)
    · show pm_V X (d' + 49) 5 0 [some (.ref 0), some (.int x), some (.int b), none] [] (pm_S0 ++ g, I, J) _
      simp only [e_B_feed_0, e_B_feed_1, e_B_feed_2, e_B_feed_3, e_B_feed_6, e_B_feed_9, e_B_feed_11, e_B_feed_13, e_B_feed_16, e_B_feed_17, e_B_feed_18, e_B_feed_20, e_B_feed_23, e_B_feed_25, e_B_feed_26, e_B_feed_27, e_B_feed_28, e_B_feed_29, e_B_feed_31, e_B_feed_34, e_B_feed_35, e_B_feed_38, e_B_feed_39, e_B_feed_42, e_B_feed_43, e_B_feed_45, e_B_feed_46, e_B_feed_47, e_B_feed_48, e_B_feed_49, e_B_feed_50, e_B_feed_51, e_B_feed_52, e_B_feed_55, e_B_feed_56, e_B_feed_57, e_B_feed_60, e_B_feed_63, e_B_feed_66, e_B_feed_67, e_B_feed_70, K_B_isWithin, eq_false hb, pm_opt_some, pm_opt_none, pm_opt_if, Bool.false_eq_true, Bool.not_false, Bool.not_true, if_false, if_true, true_and, and_true, true_or, or_true, not_true_eq_false, not_false_eq_true, q10, q00, q01, q11, pk_v, pk_i, pk_l, pk_r]
    · show pm_V X (d' + 49) 117 0 [some (.ref 82), some (.int x), some (.int b), none] [] (pm_S0 ++ g, I1, J) _
      simp only [e_M_feed_0, e_M_feed_1, e_M_feed_2, e_M_feed_3, e_M_feed_4, e_M_feed_7, e_M_feed_10, e_M_feed_12, e_M_feed_14, e_M_feed_17, e_M_feed_18, e_M_feed_19, e_M_feed_21, e_M_feed_24, e_M_feed_26, e_M_feed_27, e_M_feed_28, e_M_feed_29, e_M_feed_30, e_M_feed_32, e_M_feed_35, e_M_feed_36, e_M_feed_39, e_M_feed_40, e_M_feed_43, e_M_feed_44, e_M_feed_46, e_M_feed_47, e_M_feed_48, e_M_feed_49, e_M_feed_50, e_M_feed_51, e_M_feed_52, e_M_feed_53, e_M_feed_56, e_M_feed_57, e_M_feed_58, e_M_feed_61, e_M_feed_64, e_M_feed_67, e_M_feed_68, e_M_feed_71, sh_o_82, K_M_in, eq_false hb, pm_opt_some, pm_opt_none, pm_opt_if, Bool.false_eq_true, Bool.not_false, Bool.not_true, if_false, if_true, true_and, and_true, true_or, or_true, not_true_eq_false, not_false_eq_true, q10, q00, q01, q11, pk_v, pk_i, pk_l, pk_r]
end P59
