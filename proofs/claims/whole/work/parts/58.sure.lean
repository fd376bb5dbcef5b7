/-! pairs of calls: sure -/
def oN (I : Nat → Nat → Int32) (k : Nat) : Nat := (I 9 k).toNatClampNeg
def gsB (gs k : Nat) : Bool := decide (nI gs >>> (nI k &&& 31) &&& 1 = 1)
def wtF (I : Nat → Nat → Int32) (gs : Nat) (k w : Nat) : Nat := w * (if gsB gs k = true then oN I k else 10 - oN I k)
def wtN (I : Nat → Nat → Int32) (gs : Nat) : Nat := fld (wtF I gs) 0 4 1
def wgI (I : Nat → Nat → Int32) (gs hour : Int32) : Int32 := if hour / 24 - I 1 4 / 24 < 4 then (if gs >>> ((hour / 24 - I 1 4 / 24) &&& 31) &&& 1 = 1 then 1 else 0) else wmI I hour
def suT (I : Nat → Nat → Int32) (gs : Int32) (n : Nat) : Nat → T3 := fld (fun i T => hsT I (hwI I) 0 (nI (hN I + i)) (wgI I gs (nI (hN I + i))) T) 0 n (rowT I 3 4 5)
def suB (I : Nat → Nat → Int32) (gs : Int32) (n : Nat) : Bool := boK I (suT I gs n)
def abF (I : Nat → Nat → Int32) (n : Nat) (gs s : Nat) : Nat := if 0 < wtN I gs ∧ suB I (nI gs) n = true then s + wtN I gs else s
def abN (I : Nat → Nat → Int32) (n : Nat) : Nat := fld (abF I n) 0 16 0
def suV (v : Nat) (b : Int32) : Int64 := if b = 0 then lN (v / Nat.gcd 10000 v) else lN (10000 / Nat.gcd 10000 v)
/-- Euclid's steps -/
def eu : Nat → Nat → Nat → Nat
  | 0, a, _ => a
  | n + 1, a, b => if b = 0 then a else eu n b (a % b)
section P58
variable {X : pm_X} {d : Nat} {P Q : pm_O → Prop} {g : List pm_S} {S : List pm_S} {I I' I1 B C : Nat → Nat → Int32} {J J' : Nat → Nat → Int64} {j w m n gs : Nat} {c a b s l x y : Int32} {fi : Int32} {p : Nat → Int32} {T U : Nat → T3}
theorem gcd_s (a b : Nat) : Nat.gcd a b = Nat.gcd b (a % b) := by
  rw [Nat.gcd_comm a b, Nat.gcd_rec b a, Nat.gcd_comm]
theorem eu_gcd : ∀ (k n a b : Nat), 2 * k < n → b < 2 ^ k → eu n a b = Nat.gcd a b := by
  intro k
  induction k with
  | zero =>
    intro n a b hn hb
    obtain rfl : b = 0 := by omega
    obtain ⟨n, rfl⟩ : ∃ n', n = n' + 1 := ⟨n - 1, by omega⟩
    rw [eu, if_pos rfl, Nat.gcd_zero_right]
  | succ k ih =>
    intro n a b hn hb
    obtain ⟨n, rfl⟩ : ∃ n', n = n' + 2 := ⟨n - 2, by omega⟩
    rw [eu]
    by_cases q : b = 0
    · rw [if_pos q, q, Nat.gcd_zero_right]
    · rw [if_neg q, gcd_s a b, eu]
      by_cases q2 : a % b = 0
      · rw [if_pos q2, q2, Nat.gcd_zero_right]
      · rw [if_neg q2, gcd_s b (a % b)]
        refine ih n _ _ (by omega) ?_
        have h1 : a % b < b := Nat.mod_lt _ (by omega)
        have h2 : b % (a % b) < a % b := Nat.mod_lt _ (by omega)
        have h3 : b % (a % b) ≤ b - a % b := by
          rw [Nat.mod_eq_sub_mod (by omega)]
          exact Nat.mod_le _ _
        have h4 : 2 ^ (k + 1) = 2 * 2 ^ k := by rw [Nat.pow_succ, Nat.mul_comm]
        omega
theorem K_B_gcd {v : Nat} (hv : v < 2 ^ 20) : pm_cl X (d + 1) 41 [.int 10000, .int (nI v)] (S, I, J) P = P (some (.int (nI (Nat.gcd 10000 v))), (S, I, J)) := by
  refine K_of (k := 0) (fun d' => ?_)
  have A : ∀ (r k a b : Nat) (l5 : Option Value), k + r = 64 → a < 2 ^ 31 → b < 2 ^ 31 → ∀ (Q : pm_O → Prop), pm_V X d' 41 7 [some (.int 10000), some (.int (nI v)), some (.int (nI a)), some (.int (nI b)), some (.int (nI k)), l5] [] (S, I, J) Q = Q (some (.int (nI (eu r a b))), (S, I, J)) := by
    intro r
    induction r with
    | zero =>
      intro k a b l5 hk ha hb Q
      obtain rfl : k = 64 := by omega
      have h1 : ((64 : Int32) ≤ nI 64) = True := by decide
      rw [e_B_commonDivisor_7, eu]
      simp only [e_B_commonDivisor_0, e_B_commonDivisor_1, e_B_commonDivisor_2, e_B_commonDivisor_3, e_B_commonDivisor_4, e_B_commonDivisor_5, e_B_commonDivisor_9, e_B_commonDivisor_11, e_B_commonDivisor_14, e_B_commonDivisor_15, e_B_commonDivisor_18, e_B_commonDivisor_19, e_B_commonDivisor_20, e_B_commonDivisor_21, e_B_commonDivisor_23, e_B_commonDivisor_24, e_B_commonDivisor_25, e_B_commonDivisor_27, e_B_commonDivisor_28, e_B_commonDivisor_31, e_B_commonDivisor_34, e_B_commonDivisor_35, h1, pm_opt_some, pm_opt_none, pm_opt_if, Bool.false_eq_true, Bool.not_false, Bool.not_true, if_false, if_true, true_and, and_true, true_or, or_true, not_true_eq_false, not_false_eq_true, q10, q00, q01, q11, pk_v, pk_i, pk_l, pk_r]
    | succ r ih =>
      intro k a b l5 hk ha hb Q
      have h1 : ((64 : Int32) ≤ nI k) = False := by
        rw [show (64 : Int32) = nI 64 from rfl, nI_le_l (by omega) (by omega)]
        exact eq_false (by omega)
      have hb0 : (nI b = 0) = (b = 0) := by
        rw [show (0 : Int32) = nI 0 from rfl]
        exact propext (nI_eq hb (by decide))
      rw [eu, e_B_commonDivisor_7]
      by_cases q : b = 0
      · have hb1 : (nI b = 0) = True := hb0.trans (eq_true q)
        rw [if_pos q]
        simp only [e_B_commonDivisor_0, e_B_commonDivisor_1, e_B_commonDivisor_2, e_B_commonDivisor_3, e_B_commonDivisor_4, e_B_commonDivisor_5, e_B_commonDivisor_9, e_B_commonDivisor_11, e_B_commonDivisor_14, e_B_commonDivisor_15, e_B_commonDivisor_18, e_B_commonDivisor_19, e_B_commonDivisor_20, e_B_commonDivisor_21, e_B_commonDivisor_23, e_B_commonDivisor_24, e_B_commonDivisor_25, e_B_commonDivisor_27, e_B_commonDivisor_28, e_B_commonDivisor_31, e_B_commonDivisor_34, e_B_commonDivisor_35, h1, hb1, pm_opt_some, pm_opt_none, pm_opt_if, Bool.false_eq_true, Bool.not_false, Bool.not_true, if_false, if_true, true_and, and_true, true_or, or_true, not_true_eq_false, not_false_eq_true, q10, q00, q01, q11, pk_v, pk_i, pk_l, pk_r]
      · have hr : nI a - nI a / nI b * nI b = nI (a % b) := pk_rem ha (by omega) hb
        have hm : a % b < b := Nat.mod_lt _ (by omega)
        simp only [e_B_commonDivisor_0, e_B_commonDivisor_1, e_B_commonDivisor_2, e_B_commonDivisor_3, e_B_commonDivisor_4, e_B_commonDivisor_5, e_B_commonDivisor_9, e_B_commonDivisor_11, e_B_commonDivisor_14, e_B_commonDivisor_15, e_B_commonDivisor_18, e_B_commonDivisor_19, e_B_commonDivisor_20, e_B_commonDivisor_21, e_B_commonDivisor_23, e_B_commonDivisor_24, e_B_commonDivisor_25, e_B_commonDivisor_27, e_B_commonDivisor_28, e_B_commonDivisor_31, e_B_commonDivisor_34, e_B_commonDivisor_35, h1, hb0, q, hr, nI_1, pm_opt_some, pm_opt_none, pm_opt_if, Bool.false_eq_true, Bool.not_false, Bool.not_true, if_false, if_true, true_and, and_true, true_or, or_true, not_true_eq_false, not_false_eq_true, q10, q00, q01, q11, pk_v, pk_i, pk_l, pk_r]
        rw [ih (k + 1) b (a % b) _ (by omega) hb (by omega)]
  show pm_V X d' 41 0 [some (.int 10000), some (.int (nI v)), none, none, none, none] [] (S, I, J) _
  have := A 64 0 10000 v none rfl (by decide) (by omega)
  rw [nI_0, show nI 10000 = 10000 from rfl, eu_gcd 20 64 10000 v (by decide) hv] at this
  simp only [e_B_commonDivisor_0, e_B_commonDivisor_1, e_B_commonDivisor_2, e_B_commonDivisor_3, e_B_commonDivisor_4, e_B_commonDivisor_5, e_B_commonDivisor_9, e_B_commonDivisor_11, e_B_commonDivisor_14, e_B_commonDivisor_15, e_B_commonDivisor_18, e_B_commonDivisor_19, e_B_commonDivisor_20, e_B_commonDivisor_21, e_B_commonDivisor_23, e_B_commonDivisor_24, e_B_commonDivisor_25, e_B_commonDivisor_27, e_B_commonDivisor_28, e_B_commonDivisor_31, e_B_commonDivisor_34, e_B_commonDivisor_35]
  rw [this]
theorem lg_z {v : Nat} (hv : v < 2 ^ 31) : (lg_cmp (lN v) 0 = 0) = (v = 0) := by
  have e : (lN v = 0) ↔ v = 0 := lN_eq (b := 0) hv (by decide)
  unfold lg_cmp
  by_cases q : v = 0
  · subst q
    exact propext ⟨fun _ => rfl, fun _ => by decide⟩
  · have h1 : (lN v) > 0 := (lN_lt (a := 0) (by decide) hv).mpr (by omega)
    rw [if_pos h1]
    exact propext ⟨fun z => absurd z (by decide), fun z => absurd z q⟩
theorem K_M_gcd {v : Nat} (hv : v < 2 ^ 31) : pm_cl X (d + 1) 168 [.ref 82, .long (lN v), .long 10000] (S, I, J) P = P (some (.long (lN (Nat.gcd 10000 v))), (S, I, J)) := by
  refine K_of (k := 0) (fun d' => ?_)
  have A : ∀ (N b a : Nat) (l9 : Option Value), b ≤ N → a < 2 ^ 31 → b < 2 ^ 31 → ∀ (Q : pm_O → Prop), pm_V X d' 168 6 [some (.ref 82), some (.long (lN v)), none, some (.long 10000), none, some (.long (lN a)), none, some (.long (lN b)), none, l9, none] [] (S, I, J) Q = Q (some (.long (lN (Nat.gcd a b))), (S, I, J)) := by
    intro N
    induction N with
    | zero =>
      intro b a l9 hN ha hb Q
      obtain rfl : b = 0 := by omega
      have h1 := lg_z (v := 0) (by decide)
      rw [e_M_divisor_6]
      simp only [e_M_divisor_0, e_M_divisor_1, e_M_divisor_3, e_M_divisor_4, e_M_divisor_8, e_M_divisor_9, e_M_divisor_10, e_M_divisor_13, e_M_divisor_15, e_M_divisor_17, e_M_divisor_18, e_M_divisor_20, e_M_divisor_22, e_M_divisor_24, e_M_divisor_26, e_M_divisor_28, e_M_divisor_31, e_M_divisor_33, h1, Nat.gcd_zero_right, pm_opt_some, pm_opt_none, pm_opt_if, Bool.false_eq_true, Bool.not_false, Bool.not_true, if_false, if_true, true_and, and_true, true_or, or_true, not_true_eq_false, not_false_eq_true, q10, q00, q01, q11, pk_v, pk_i, pk_l, pk_r]
    | succ N ih =>
      intro b a l9 hN ha hb Q
      have h1 := lg_z hb
      rw [e_M_divisor_6]
      by_cases q : b = 0
      · subst q
        simp only [e_M_divisor_0, e_M_divisor_1, e_M_divisor_3, e_M_divisor_4, e_M_divisor_8, e_M_divisor_9, e_M_divisor_10, e_M_divisor_13, e_M_divisor_15, e_M_divisor_17, e_M_divisor_18, e_M_divisor_20, e_M_divisor_22, e_M_divisor_24, e_M_divisor_26, e_M_divisor_28, e_M_divisor_31, e_M_divisor_33, h1, Nat.gcd_zero_right, pm_opt_some, pm_opt_none, pm_opt_if, Bool.false_eq_true, Bool.not_false, Bool.not_true, if_false, if_true, true_and, and_true, true_or, or_true, not_true_eq_false, not_false_eq_true, q10, q00, q01, q11, pk_v, pk_i, pk_l, pk_r]
      · have hr : lN a - lN a / lN b * lN b = lN (a % b) := pk_lRem (by omega) (by omega) (by omega)
        have hm : a % b < b := Nat.mod_lt _ (by omega)
        have h0 : ¬ lN b = 0 := fun z => q ((lN_eq (b := 0) hb (by decide)).mp z)
        simp only [e_M_divisor_0, e_M_divisor_1, e_M_divisor_3, e_M_divisor_4, e_M_divisor_8, e_M_divisor_9, e_M_divisor_10, e_M_divisor_13, e_M_divisor_15, e_M_divisor_17, e_M_divisor_18, e_M_divisor_20, e_M_divisor_22, e_M_divisor_24, e_M_divisor_26, e_M_divisor_28, e_M_divisor_31, e_M_divisor_33, h1, q, h0, hr, pm_opt_some, pm_opt_none, pm_opt_if, Bool.false_eq_true, Bool.not_false, Bool.not_true, if_false, if_true, true_and, and_true, true_or, or_true, not_true_eq_false, not_false_eq_true, q10, q00, q01, q11, pk_v, pk_i, pk_l, pk_r]
        rw [ih (a % b) b _ (by omega) hb (by omega), gcd_s a b]
  show pm_V X d' 168 0 [some (.ref 82), some (.long (lN v)), none, some (.long 10000), none, none, none, none, none, none, none] [] (S, I, J) _
  have := A 10000 10000 v none (by decide) hv (by decide)
  rw [show lN 10000 = 10000 from rfl, Nat.gcd_comm] at this
  simp only [e_M_divisor_0, e_M_divisor_1, e_M_divisor_3, e_M_divisor_4, e_M_divisor_8, e_M_divisor_9, e_M_divisor_10, e_M_divisor_13, e_M_divisor_15, e_M_divisor_17, e_M_divisor_18, e_M_divisor_20, e_M_divisor_22, e_M_divisor_24, e_M_divisor_26, e_M_divisor_28, e_M_divisor_31, e_M_divisor_33]
  rw [this]
theorem Rel_od (hR : Rel I J) : ∀ k, k < 4 → I 9 k = nI (oN I k) ∧ oN I k ≤ 10 := by
  intro k hk
  obtain ⟨m, hm, e⟩ := hR.2.2.2.1.2.2.2.2.1 k hk
  unfold oN
  rw [e, nI_clamp (by omega)]
  exact ⟨rfl, hm⟩
theorem wt_bd (h : ∀ k, k < 4 → oN I k ≤ 10) : wtN I gs ≤ 10000 := by
  have := fld_inv (f := wtF I gs) (fun k w => w ≤ 10 ^ k) 4 0 1 (fun i w h1 h2 h3 => by
    unfold wtF
    rw [Nat.pow_succ]
    refine Nat.mul_le_mul h3 ?_
    have := h i (by omega)
    split
    · exact this
    · omega) (by decide)
  exact this
theorem K_B_weightOf (hR : Rel I J) (hs : sfr I C) : pm_cl X (d + 1) 56 [.ref 0, .int (nI gs)] (pm_S0 ++ g, C, J) P = P (some (.int (nI (wtN I gs))), (pm_S0 ++ g, C, J)) := by
  refine K_of (k := 0) (fun d' => ?_)
  have e9 : C 9 = I 9 := sfr_at hs (by decide)
  have od := Rel_od hR
  have L := fun (Q : pm_O → Prop) => pm_lp (fun k (v : Nat) => pm_V X d' 56 4 [some (.ref 0), some (.int (nI gs)), some (.int (nI v)), some (.int (nI k))] [] (pm_S0 ++ g, C, J) Q) (wtF I gs) 4 (by
    intro k v hk
    obtain ⟨o1, o2⟩ := od k hk
    have h1 : ((4 : Int32) ≤ nI k) = False := by
      rw [show (4 : Int32) = nI 4 from rfl, nI_le_l (by omega) (by omega)]
      exact eq_false (by omega)
    have hb := bad_nI (k := k) (n := 4) hk (by decide)
    have hc := nI_clamp (n := k) (by omega)
    have h10 : 10 - nI (oN I k) = nI (10 - oN I k) := pk_sub (a := 10) o2
    show pm_V X d' 56 4 [some (.ref 0), some (.int (nI gs)), some (.int (nI v)), some (.int (nI k))] [] (pm_S0 ++ g, C, J) Q = _
    rw [e_B_weightOf_4]
    unfold wtF gsB
    simp only [decide_eq_true_eq]
    by_cases q : nI gs >>> (nI k &&& 31) &&& 1 = 1
    · simp only [e_B_weightOf_0, e_B_weightOf_1, e_B_weightOf_2, e_B_weightOf_3, e_B_weightOf_5, e_B_weightOf_6, e_B_weightOf_9, e_B_weightOf_10, e_B_weightOf_11, e_B_weightOf_12, e_B_weightOf_13, e_B_weightOf_14, e_B_weightOf_15, e_B_weightOf_16, e_B_weightOf_19, e_B_weightOf_20, e_B_weightOf_23, e_B_weightOf_26, e_B_weightOf_27, e_B_weightOf_28, e_B_weightOf_31, e_B_weightOf_33, e_B_weightOf_34, e_B_weightOf_37, e_B_weightOf_40, e_B_weightOf_41, e_B_weightOf_42, e_B_weightOf_43, e_B_weightOf_44, e_B_weightOf_45, e_B_weightOf_48, e_B_weightOf_51, e_B_weightOf_52, h1, q, sh_r_0_0, sh_r_1_6, sh_i_9, e9, hb, hc, o1, pk_mul, nI_1, pm_opt_some, pm_opt_none, pm_opt_if, Bool.false_eq_true, Bool.not_false, Bool.not_true, if_false, if_true, true_and, and_true, true_or, or_true, not_true_eq_false, not_false_eq_true, q10, q00, q01, q11, pk_v, pk_i, pk_l, pk_r]
    · simp only [e_B_weightOf_0, e_B_weightOf_1, e_B_weightOf_2, e_B_weightOf_3, e_B_weightOf_5, e_B_weightOf_6, e_B_weightOf_9, e_B_weightOf_10, e_B_weightOf_11, e_B_weightOf_12, e_B_weightOf_13, e_B_weightOf_14, e_B_weightOf_15, e_B_weightOf_16, e_B_weightOf_19, e_B_weightOf_20, e_B_weightOf_23, e_B_weightOf_26, e_B_weightOf_27, e_B_weightOf_28, e_B_weightOf_31, e_B_weightOf_33, e_B_weightOf_34, e_B_weightOf_37, e_B_weightOf_40, e_B_weightOf_41, e_B_weightOf_42, e_B_weightOf_43, e_B_weightOf_44, e_B_weightOf_45, e_B_weightOf_48, e_B_weightOf_51, e_B_weightOf_52, h1, q, sh_r_0_0, sh_r_1_6, sh_i_9, e9, hb, hc, o1, h10, pk_mul, nI_1, pm_opt_some, pm_opt_none, pm_opt_if, Bool.false_eq_true, Bool.not_false, Bool.not_true, if_false, if_true, true_and, and_true, true_or, or_true, not_true_eq_false, not_false_eq_true, q10, q00, q01, q11, pk_v, pk_i, pk_l, pk_r]) 4 0 1 (by omega)
  have h4 : ((4 : Int32) ≤ nI 4) = True := by decide
  simp only [nI_0, show nI 1 = 1 from rfl] at L
  show pm_V X d' 56 0 [some (.ref 0), some (.int (nI gs)), none, none] [] (pm_S0 ++ g, C, J) _
  simp only [e_B_weightOf_0, e_B_weightOf_1, e_B_weightOf_2, e_B_weightOf_3, e_B_weightOf_5, e_B_weightOf_6, e_B_weightOf_9, e_B_weightOf_10, e_B_weightOf_11, e_B_weightOf_12, e_B_weightOf_13, e_B_weightOf_14, e_B_weightOf_15, e_B_weightOf_16, e_B_weightOf_19, e_B_weightOf_20, e_B_weightOf_23, e_B_weightOf_26, e_B_weightOf_27, e_B_weightOf_28, e_B_weightOf_31, e_B_weightOf_33, e_B_weightOf_34, e_B_weightOf_37, e_B_weightOf_40, e_B_weightOf_41, e_B_weightOf_42, e_B_weightOf_43, e_B_weightOf_44, e_B_weightOf_45, e_B_weightOf_48, e_B_weightOf_51, e_B_weightOf_52]
  rw [L, e_B_weightOf_4]
  simp only [e_B_weightOf_0, e_B_weightOf_1, e_B_weightOf_2, e_B_weightOf_3, e_B_weightOf_5, e_B_weightOf_6, e_B_weightOf_9, e_B_weightOf_10, e_B_weightOf_11, e_B_weightOf_12, e_B_weightOf_13, e_B_weightOf_14, e_B_weightOf_15, e_B_weightOf_16, e_B_weightOf_19, e_B_weightOf_20, e_B_weightOf_23, e_B_weightOf_26, e_B_weightOf_27, e_B_weightOf_28, e_B_weightOf_31, e_B_weightOf_33, e_B_weightOf_34, e_B_weightOf_37, e_B_weightOf_40, e_B_weightOf_41, e_B_weightOf_42, e_B_weightOf_43, e_B_weightOf_44, e_B_weightOf_45, e_B_weightOf_48, e_B_weightOf_51, e_B_weightOf_52, h4, pm_opt_some, pm_opt_none, pm_opt_if, Bool.false_eq_true, Bool.not_false, Bool.not_true, if_false, if_true, true_and, and_true, true_or, or_true, not_true_eq_false, not_false_eq_true, q10, q00, q01, q11, pk_v, pk_i, pk_l, pk_r]
  rfl
theorem q24z : ((24 : Int32) = 0) = False := by decide
theorem K_B_isWarmGuessed {hour : Int32} (h1 : C 1 = I 1) : pm_cl X (d + 3) 52 [.ref 0, .int hour, .int x] (pm_S0 ++ g, C, J) P = P (some (.int (wgI I x hour)), (pm_S0 ++ g, C, J)) := by
  refine K_of (k := 2) (fun d' => ?_)
  have ew : (if dayI hour < 10 ∧ I 1 5 >>> (dayI hour &&& 31) &&& 1 = 1 then (1 : Int32) else 0) = wmI I hour := rfl
  show pm_V X (d' + 2) 52 0 [some (.ref 0), some (.int hour), some (.int x), none] [] (pm_S0 ++ g, C, J) _
  unfold wgI
  by_cases q1 : hour / 24 - I 1 4 / 24 < 4
  · have q1' : ¬ 4 ≤ hour / 24 - I 1 4 / 24 := Int32.not_le.mpr q1
    by_cases q2 : x >>> ((hour / 24 - I 1 4 / 24) &&& 31) &&& 1 = 1
    · simp only [e_B_isWarmGuessed_0, e_B_isWarmGuessed_1, e_B_isWarmGuessed_3, e_B_isWarmGuessed_4, e_B_isWarmGuessed_5, e_B_isWarmGuessed_8, e_B_isWarmGuessed_11, e_B_isWarmGuessed_13, e_B_isWarmGuessed_14, e_B_isWarmGuessed_15, e_B_isWarmGuessed_16, e_B_isWarmGuessed_17, e_B_isWarmGuessed_18, e_B_isWarmGuessed_21, e_B_isWarmGuessed_22, e_B_isWarmGuessed_23, e_B_isWarmGuessed_24, e_B_isWarmGuessed_25, e_B_isWarmGuessed_26, e_B_isWarmGuessed_27, e_B_isWarmGuessed_30, e_B_isWarmGuessed_31, e_B_isWarmGuessed_34, e_B_isWarmGuessed_35, e_B_isWarmGuessed_38, e_B_isWarmGuessed_39, e_B_isWarmGuessed_40, e_B_isWarmGuessed_43, sh_r_0_0, sh_o_1, h1, q24z, q1, q1', q2, pm_opt_some, pm_opt_none, pm_opt_if, Bool.false_eq_true, Bool.not_false, Bool.not_true, if_false, if_true, true_and, and_true, true_or, or_true, not_true_eq_false, not_false_eq_true, q10, q00, q01, q11, pk_v, pk_i, pk_l, pk_r]
    · simp only [e_B_isWarmGuessed_0, e_B_isWarmGuessed_1, e_B_isWarmGuessed_3, e_B_isWarmGuessed_4, e_B_isWarmGuessed_5, e_B_isWarmGuessed_8, e_B_isWarmGuessed_11, e_B_isWarmGuessed_13, e_B_isWarmGuessed_14, e_B_isWarmGuessed_15, e_B_isWarmGuessed_16, e_B_isWarmGuessed_17, e_B_isWarmGuessed_18, e_B_isWarmGuessed_21, e_B_isWarmGuessed_22, e_B_isWarmGuessed_23, e_B_isWarmGuessed_24, e_B_isWarmGuessed_25, e_B_isWarmGuessed_26, e_B_isWarmGuessed_27, e_B_isWarmGuessed_30, e_B_isWarmGuessed_31, e_B_isWarmGuessed_34, e_B_isWarmGuessed_35, e_B_isWarmGuessed_38, e_B_isWarmGuessed_39, e_B_isWarmGuessed_40, e_B_isWarmGuessed_43, sh_r_0_0, sh_o_1, h1, q24z, q1, q1', q2, pm_opt_some, pm_opt_none, pm_opt_if, Bool.false_eq_true, Bool.not_false, Bool.not_true, if_false, if_true, true_and, and_true, true_or, or_true, not_true_eq_false, not_false_eq_true, q10, q00, q01, q11, pk_v, pk_i, pk_l, pk_r]
  · have q1' : 4 ≤ hour / 24 - I 1 4 / 24 := Int32.not_lt.mp q1
    have w01 := wmI_01 (I := I) (h := hour)
    simp only [e_B_isWarmGuessed_0, e_B_isWarmGuessed_1, e_B_isWarmGuessed_3, e_B_isWarmGuessed_4, e_B_isWarmGuessed_5, e_B_isWarmGuessed_8, e_B_isWarmGuessed_11, e_B_isWarmGuessed_13, e_B_isWarmGuessed_14, e_B_isWarmGuessed_15, e_B_isWarmGuessed_16, e_B_isWarmGuessed_17, e_B_isWarmGuessed_18, e_B_isWarmGuessed_21, e_B_isWarmGuessed_22, e_B_isWarmGuessed_23, e_B_isWarmGuessed_24, e_B_isWarmGuessed_25, e_B_isWarmGuessed_26, e_B_isWarmGuessed_27, e_B_isWarmGuessed_30, e_B_isWarmGuessed_31, e_B_isWarmGuessed_34, e_B_isWarmGuessed_35, e_B_isWarmGuessed_38, e_B_isWarmGuessed_39, e_B_isWarmGuessed_40, e_B_isWarmGuessed_43, sh_r_0_0, sh_o_0, sh_o_1, h1, q24z, q1, q1', K_B_isWarm, ew, pm_opt_some, pm_opt_none, pm_opt_if, Bool.false_eq_true, Bool.not_false, Bool.not_true, if_false, if_true, true_and, and_true, true_or, or_true, not_true_eq_false, not_false_eq_true, q10, q00, q01, q11, pk_v, pk_i, pk_l, pk_r]
    rcases w01 with w | w
    · rw [w]
      simp
    · rw [w]
      simp
theorem wgI_01 {h : Int32} : wgI I x h = 0 ∨ wgI I x h = 1 := by
  unfold wgI
  split
  · split
    · exact Or.inr rfl
    · exact Or.inl rfl
  · exact wmI_01
theorem suT_s {k : Nat} : suT I x (k + 1) = hsT I (hwI I) 0 (nI (hN I + k)) (wgI I x (nI (hN I + k))) (suT I x k) := by
  unfold suT
  rw [fld_s, Nat.zero_add]
theorem B_bh_loop {n : Nat} (hs : sfr I C) (hR : Rel C J) (hn : n ≤ 96) : ∀ (d : Nat) (Q : pm_O → Prop), pm_V X (d + 11) 57 22 [some (.ref 0), some (.int (nI n)), some (.int x), some (.int (nI (hN I)))] [] (pm_S0 ++ g, upC C 36 37 38 (rowT I 3 4 5) 16, J) Q = pm_V X (d + 11) 57 22 [some (.ref 0), some (.int (nI n)), some (.int x), some (.int (nI (hN I + n)))] [] (pm_S0 ++ g, upC C 36 37 38 (suT I x n) 16, J) Q := by
  intro d Q
  have hok := WX_ok (Rel_WX hR)
  have ehw : hwI C = hwI I := sfr_hw hs
  have ehN : hN C = hN I := sfr_hN hs
  have eN := Rel_hN hR
  have hN9 := Rel_hN9 hR
  rw [ehN] at eN hN9
  rw [ehw] at hok
  have isw : isW (hwI I) := hwI_is
  have e1 : ∀ T, upC C 36 37 38 T 16 1 = C 1 := fun T => upC_at (by decide) (by decide) (by decide)
  have c1 : C 1 = I 1 := sfr_at hs (by decide)
  have ehwT : ∀ T, hwI (upC C 36 37 38 T 16) = hwI I := fun T => (hwI_fr (e1 T)).trans ehw
  have ewg := fun (d : Nat) (P : pm_O → Prop) (T : Nat → T3) (hour : Int32) => K_B_isWarmGuessed (X := X) (d := d) (P := P) (g := g) (J := J) (I := I) (x := x) (hour := hour) ((e1 T).trans c1)
  have e14 : ∀ T, upC C 36 37 38 T 16 1 4 = nI (hN I) := fun T => by rw [e1]; exact eN
  have L := pm_lp0 (fun k => pm_V X (d + 11) 57 22 [some (.ref 0), some (.int (nI n)), some (.int x), some (.int (nI (hN I + k)))] [] (pm_S0 ++ g, upC C 36 37 38 (suT I x k) 16, J) Q) n (by
    intro k hk
    have hq : (nI (hN I + n) ≤ nI (hN I + k)) = False := by
      rw [nI_le_l (by omega) (by omega)]
      exact eq_false (by omega)
    have ehr := fun (d : Nat) (P : pm_O → Prop) => K_B_hour (X := X) (d := d) (P := P) (g := g) (J := J) (I := C) (T := suT I x k) (hour := nI (hN I + k)) (warm := wgI I x (nI (hN I + k))) (heat := 0) ice_ask (by decide) (by decide) (by decide) isw hok wgI_01
    rw [sfr_hs hs isw, ← suT_s] at ehr
    generalize suT I x (k + 1) = U at ehr ⊢
    generalize suT I x k = T at ehr ⊢
    have e2 : hN I + k + 1 = hN I + (k + 1) := rfl
    show pm_V X (d + 11) 57 22 [some (.ref 0), some (.int (nI n)), some (.int x), some (.int (nI (hN I + k)))] [] (pm_S0 ++ g, upC C 36 37 38 T 16, J) Q = _
    rw [e_B_everyCellBearsBehind_22]
    simp only [e_B_everyCellBearsBehind_0, e_B_everyCellBearsBehind_1, e_B_everyCellBearsBehind_4, e_B_everyCellBearsBehind_5, e_B_everyCellBearsBehind_8, e_B_everyCellBearsBehind_11, e_B_everyCellBearsBehind_14, e_B_everyCellBearsBehind_15, e_B_everyCellBearsBehind_18, e_B_everyCellBearsBehind_21, e_B_everyCellBearsBehind_23, e_B_everyCellBearsBehind_24, e_B_everyCellBearsBehind_27, e_B_everyCellBearsBehind_30, e_B_everyCellBearsBehind_31, e_B_everyCellBearsBehind_32, e_B_everyCellBearsBehind_35, e_B_everyCellBearsBehind_36, e_B_everyCellBearsBehind_37, e_B_everyCellBearsBehind_40, e_B_everyCellBearsBehind_41, e_B_everyCellBearsBehind_44, e_B_everyCellBearsBehind_45, e_B_everyCellBearsBehind_46, e_B_everyCellBearsBehind_47, e_B_everyCellBearsBehind_48, e_B_everyCellBearsBehind_51, e_B_everyCellBearsBehind_52, e_B_everyCellBearsBehind_55, e_B_everyCellBearsBehind_58, e_B_everyCellBearsBehind_61, e_B_everyCellBearsBehind_62, e_B_everyCellBearsBehind_63, e_B_everyCellBearsBehind_66, e_B_everyCellBearsBehind_69, sh_o_0, sh_o_1, sh_o_35, sh_r_0_0, sh_r_0_10, (isW_at (g := g) isw).1, e14, nI_add, hq, K_B_holding, ehwT, ewg, ehr, nI_1, e2, pm_opt_some, pm_opt_none, pm_opt_if, Bool.false_eq_true, Bool.not_false, Bool.not_true, if_false, if_true, true_and, and_true, true_or, or_true, not_true_eq_false, not_false_eq_true, q10, q00, q01, q11, pk_v, pk_i, pk_l, pk_r]) n 0 (by omega)
  exact L
theorem B_bh_ev {n : Nat} (hs : sfr I C) (hR : Rel C J) (hL : ∀ c, c < 16 → C 44 c = ldI (I 6) c) : pm_cl X (d + 7) 46 [.ref 0, .ref 35] (pm_S0 ++ g, upC C 36 37 38 (suT I x n) 16, J) P = if suB I x n = true then P (some (.int 1), (pm_S0 ++ g, upC C 36 37 38 (suT I x n) 16, J)) else P (some (.int 0), (pm_S0 ++ g, upC C 36 37 38 (suT I x n) 16, J)) := by
  have hok := WX_ok (Rel_WX hR)
  unfold suB boK
  generalize suT I x n = T
  have eb : allF (fun c => beI (thT (T c)) (C 44 c) (bI C)) 0 16 = allF (fun c => beI (thT (T c)) (ldI (I 6) c) (bI I)) 0 16 := allF_congr _ _ (fun i h1 h2 => by rw [hL i (by omega), sfr_bI hs])
  rw [K_evA hok, eb]
theorem K_B_behind {n : Nat} (hs : sfr I C) (hR : Rel C J) (hL : ∀ c, c < 16 → C 44 c = ldI (I 6) c) (hn : n ≤ 96) : pm_cl X (d + 12) 57 [.ref 0, .int (nI n), .int x] (pm_S0 ++ g, upC C 36 37 38 T 16, J) P = if suB I x n = true then P (some (.int 1), (pm_S0 ++ g, upC C 36 37 38 (suT I x n) 16, J)) else P (some (.int 0), (pm_S0 ++ g, upC C 36 37 38 (suT I x n) 16, J)) := by
  have ehN : hN C = hN I := sfr_hN hs
  have eN := Rel_hN hR
  rw [ehN] at eN
  have e14 : ∀ T, upC C 36 37 38 T 16 1 4 = nI (hN I) := fun T => by rw [upC_at (by decide) (by decide) (by decide)]; exact eN
  have kcp := fun (d : Nat) (P : pm_O → Prop) => K_cpA (X := X) (d := d) (P := P) (g := g) (I := upC C 36 37 38 T 16) (J := J)
  rw [sfr_row (I := C) ask_sfr, sfr_row hs] at kcp
  simp only [upC_upC] at kcp
  have kev := fun (d : Nat) (P : pm_O → Prop) => B_bh_ev (X := X) (d := d) (P := P) (g := g) (x := x) (n := n) hs hR hL
  have L := B_bh_loop (X := X) (g := g) (x := x) hs hR hn
  generalize suB I x n = z at kev ⊢
  generalize suT I x n = U at kev L ⊢
  have A : ∀ (d' : Nat) (Q : pm_O → Prop), pm_V X (d' + 11) 57 0 [some (.ref 0), some (.int (nI n)), some (.int x), none] [] (pm_S0 ++ g, upC C 36 37 38 T 16, J) Q = if z = true then Q (some (.int 1), (pm_S0 ++ g, upC C 36 37 38 U 16, J)) else Q (some (.int 0), (pm_S0 ++ g, upC C 36 37 38 U 16, J)) := by
    intro d' Q
    simp only [e_B_everyCellBearsBehind_0, e_B_everyCellBearsBehind_1, e_B_everyCellBearsBehind_4, e_B_everyCellBearsBehind_5, e_B_everyCellBearsBehind_8, e_B_everyCellBearsBehind_11, e_B_everyCellBearsBehind_14, e_B_everyCellBearsBehind_15, e_B_everyCellBearsBehind_18, e_B_everyCellBearsBehind_21, e_B_everyCellBearsBehind_23, e_B_everyCellBearsBehind_24, e_B_everyCellBearsBehind_27, e_B_everyCellBearsBehind_30, e_B_everyCellBearsBehind_31, e_B_everyCellBearsBehind_32, e_B_everyCellBearsBehind_35, e_B_everyCellBearsBehind_36, e_B_everyCellBearsBehind_37, e_B_everyCellBearsBehind_40, e_B_everyCellBearsBehind_41, e_B_everyCellBearsBehind_44, e_B_everyCellBearsBehind_45, e_B_everyCellBearsBehind_46, e_B_everyCellBearsBehind_47, e_B_everyCellBearsBehind_48, e_B_everyCellBearsBehind_51, e_B_everyCellBearsBehind_52, e_B_everyCellBearsBehind_55, e_B_everyCellBearsBehind_58, e_B_everyCellBearsBehind_61, e_B_everyCellBearsBehind_62, e_B_everyCellBearsBehind_63, e_B_everyCellBearsBehind_66, e_B_everyCellBearsBehind_69, sh_o_1, sh_o_2, sh_o_35, sh_r_0_0, sh_r_0_10, sh_r_1_0, kcp, e14, pm_opt_some, pm_opt_none, pm_opt_if, Bool.false_eq_true, Bool.not_false, Bool.not_true, if_false, if_true, true_and, and_true, true_or, or_true, not_true_eq_false, not_false_eq_true, q10, q00, q01, q11, pk_v, pk_i, pk_l, pk_r]
    rw [L, e_B_everyCellBearsBehind_22]
    simp only [e_B_everyCellBearsBehind_0, e_B_everyCellBearsBehind_1, e_B_everyCellBearsBehind_4, e_B_everyCellBearsBehind_5, e_B_everyCellBearsBehind_8, e_B_everyCellBearsBehind_11, e_B_everyCellBearsBehind_14, e_B_everyCellBearsBehind_15, e_B_everyCellBearsBehind_18, e_B_everyCellBearsBehind_21, e_B_everyCellBearsBehind_23, e_B_everyCellBearsBehind_24, e_B_everyCellBearsBehind_27, e_B_everyCellBearsBehind_30, e_B_everyCellBearsBehind_31, e_B_everyCellBearsBehind_32, e_B_everyCellBearsBehind_35, e_B_everyCellBearsBehind_36, e_B_everyCellBearsBehind_37, e_B_everyCellBearsBehind_40, e_B_everyCellBearsBehind_41, e_B_everyCellBearsBehind_44, e_B_everyCellBearsBehind_45, e_B_everyCellBearsBehind_46, e_B_everyCellBearsBehind_47, e_B_everyCellBearsBehind_48, e_B_everyCellBearsBehind_51, e_B_everyCellBearsBehind_52, e_B_everyCellBearsBehind_55, e_B_everyCellBearsBehind_58, e_B_everyCellBearsBehind_61, e_B_everyCellBearsBehind_62, e_B_everyCellBearsBehind_63, e_B_everyCellBearsBehind_66, e_B_everyCellBearsBehind_69, sh_o_0, sh_o_1, sh_o_35, sh_r_0_0, sh_r_0_10, e14, nI_add, Int32.le_refl, kev, pm_opt_some, pm_opt_none, pm_opt_if, Bool.false_eq_true, Bool.not_false, Bool.not_true, if_false, if_true, true_and, and_true, true_or, or_true, not_true_eq_false, not_false_eq_true, q10, q00, q01, q11, pk_v, pk_i, pk_l, pk_r]
  refine K_if (k := 11) (fun hq d' => ?_) (fun hq d' => ?_)
  · show pm_V X (d' + 11) 57 0 [some (.ref 0), some (.int (nI n)), some (.int x), none] [] (pm_S0 ++ g, upC C 36 37 38 T 16, J) _
    rw [A, if_pos hq]
  · show pm_V X (d' + 11) 57 0 [some (.ref 0), some (.int (nI n)), some (.int x), none] [] (pm_S0 ++ g, upC C 36 37 38 T 16, J) _
    rw [A, if_neg hq]
theorem ab_bd {k : Nat} (h : ∀ k, k < 4 → oN I k ≤ 10) : fld (abF I n) 0 k 0 ≤ 10000 * k := by
  have := fld_inv (f := abF I n) (fun k s => s ≤ 10000 * k) k 0 0 (fun i w h1 h2 h3 => by
    unfold abF
    have := wt_bd (gs := i) h
    split
    · omega
    · omega) (by omega)
  rw [Nat.zero_add] at this
  exact this
theorem B_su_loop (hs : sfr I C) (hR0 : Rel I J) (hR : Rel C J) (hL : ∀ c, c < 16 → C 44 c = ldI (I 6) c) (hn : n ≤ 96) : ∀ (r k v : Nat) (T : Nat → T3) (l5 : Option Value), k + r = 16 → ∃ T' l5', ∀ (d : Nat) (Q : pm_O → Prop), pm_V X (d + 12) 24 39 [some (.ref 0), some (.int (nI n)), some (.int b), some (.int (nI v)), some (.int (nI k)), l5] [] (pm_S0 ++ g, upC C 36 37 38 T 16, J) Q = pm_V X (d + 12) 24 80 [some (.ref 0), some (.int (nI n)), some (.int b), some (.int (nI (fld (abF I n) k r v))), some (.int (nI 16)), l5'] [] (pm_S0 ++ g, upC C 36 37 38 T' 16, J) Q := by
  intro r
  induction r with
  | zero =>
    intro k v T l5 hk
    obtain rfl : k = 16 := by omega
    have h16 : ((16 : Int32) ≤ nI 16) = True := by decide
    refine ⟨T, l5, fun d Q => ?_⟩
    rw [e_B_sure_39]
    simp only [e_B_sure_41, e_B_sure_43, h16, if_true]
    rfl
  | succ r ih =>
    intro k v T l5 hk
    have od : ∀ k, k < 4 → oN I k ≤ 10 := fun k hk => (Rel_od hR0 k hk).2
    have wb := wt_bd (gs := k) od
    have h1 : ((16 : Int32) ≤ nI k) = False := by
      rw [show (16 : Int32) = nI 16 from rfl, nI_le_l (by omega) (by omega)]
      exact eq_false (by omega)
    have kw := fun (d : Nat) (P : pm_O → Prop) (T : Nat → T3) => K_B_weightOf (X := X) (d := d) (P := P) (g := g) (C := upC C 36 37 38 T 16) (gs := k) hR0 (sfr_tr hs ask_sfr)
    have kb := fun (d : Nat) (P : pm_O → Prop) (T : Nat → T3) => K_B_behind (X := X) (d := d) (P := P) (g := g) (T := T) (x := nI k) hs hR hL hn
    have hw0 : (nI (wtN I k) ≤ 0) = (wtN I k = 0) := by
      rw [show (0 : Int32) = nI 0 from rfl, nI_le_l (by decide) (by omega)]
      exact propext (by omega)
    by_cases q : wtN I k = 0
    · have ef : abF I n k v = v := by
        unfold abF
        rw [if_neg (fun z => by omega)]
      obtain ⟨T', l5', h2⟩ := ih (k + 1) v T (some (.int (nI (wtN I k)))) (by omega)
      refine ⟨T', l5', fun d Q => ?_⟩
      rw [fld, ef, ← h2 d Q, e_B_sure_39]
      simp only [e_B_sure_41, e_B_sure_43, e_B_sure_46, e_B_sure_47, e_B_sure_49, e_B_sure_52, e_B_sure_54, e_B_sure_56, e_B_sure_74, e_B_sure_77, h1, sh_o_0, kw, hw0, eq_true q, nI_1, pm_opt_some, pm_opt_none, pm_opt_if, Bool.false_eq_true, Bool.not_false, Bool.not_true, if_false, if_true, true_and, and_true, true_or, or_true, not_true_eq_false, not_false_eq_true, q10, q00, q01, q11, pk_v, pk_i, pk_l, pk_r]
    · by_cases q2 : suB I (nI k) n = true
      · have ef : abF I n k v = v + wtN I k := by
          unfold abF
          rw [if_pos ⟨by omega, q2⟩]
        obtain ⟨T', l5', h2⟩ := ih (k + 1) (v + wtN I k) (suT I (nI k) n) (some (.int (nI (wtN I k)))) (by omega)
        refine ⟨T', l5', fun d Q => ?_⟩
        rw [fld, ef, ← h2 d Q, e_B_sure_39]
        rw [q2] at kb
        simp only [e_B_sure_41, e_B_sure_43, e_B_sure_46, e_B_sure_47, e_B_sure_49, e_B_sure_52, e_B_sure_54, e_B_sure_56, e_B_sure_59, e_B_sure_60, e_B_sure_61, e_B_sure_63, e_B_sure_66, e_B_sure_69, e_B_sure_70, e_B_sure_72, e_B_sure_73, e_B_sure_74, e_B_sure_77, h1, sh_o_0, kw, kb, hw0, eq_false q, nI_add, nI_1, pm_opt_some, pm_opt_none, pm_opt_if, Bool.false_eq_true, Bool.not_false, Bool.not_true, if_false, if_true, true_and, and_true, true_or, or_true, not_true_eq_false, not_false_eq_true, q10, q00, q01, q11, pk_v, pk_i, pk_l, pk_r]
      · have ef : abF I n k v = v := by
          unfold abF
          rw [if_neg (fun z => q2 z.2)]
        obtain ⟨T', l5', h2⟩ := ih (k + 1) v (suT I (nI k) n) (some (.int (nI (wtN I k)))) (by omega)
        refine ⟨T', l5', fun d Q => ?_⟩
        rw [fld, ef, ← h2 d Q, e_B_sure_39]
        rw [Bool.not_eq_true] at q2
        rw [q2] at kb
        simp only [e_B_sure_41, e_B_sure_43, e_B_sure_46, e_B_sure_47, e_B_sure_49, e_B_sure_52, e_B_sure_54, e_B_sure_56, e_B_sure_59, e_B_sure_60, e_B_sure_61, e_B_sure_63, e_B_sure_66, e_B_sure_74, e_B_sure_77, h1, sh_o_0, kw, kb, hw0, eq_false q, nI_1, pm_opt_some, pm_opt_none, pm_opt_if, Bool.false_eq_true, Bool.not_false, Bool.not_true, if_false, if_true, true_and, and_true, true_or, or_true, not_true_eq_false, not_false_eq_true, q10, q00, q01, q11, pk_v, pk_i, pk_l, pk_r]
/-- the reference: a guess's weight -/
theorem M_su_w (hR0 : Rel I J) (hs : sfr I B) (hR : Rel B J) {v : Int64} {l6 l8 l9 : Option Value} (hg : gs < 16) : ∀ (d : Nat) (Q : pm_O → Prop), pm_V X (d + 2) 169 37 [some (.ref 82), some (.int (nI n)), some (.int b), some (.long v), none, some (.int (nI gs)), l6, none, l8, l9] [] (pm_S0 ++ g, B, J) Q = pm_V X (d + 2) 169 93 [some (.ref 82), some (.int (nI n)), some (.int b), some (.long v), none, some (.int (nI gs)), some (.long (lN (wtN I gs))), none, some (.int (nI 4)), l9] [] (pm_S0 ++ g, B, J) Q := by
  intro d Q
  have e9 : B 89 = I 9 := hR.1.1.2.2.2.2.2.2.1.trans (sfr_at hs (by decide))
  have od := Rel_od hR0
  have L := pm_lp (fun k (w : Nat) => pm_V X (d + 2) 169 43 [some (.ref 82), some (.int (nI n)), some (.int b), some (.long v), none, some (.int (nI gs)), some (.long (lN w)), none, some (.int (nI k)), l9] [] (pm_S0 ++ g, B, J) Q) (wtF I gs) 4 (by
    intro k w hk
    obtain ⟨o1, o2⟩ := od k hk
    have h1 : ((4 : Int32) ≤ nI k) = False := by
      rw [show (4 : Int32) = nI 4 from rfl, nI_le_l (by omega) (by omega)]
      exact eq_false (by omega)
    have hb := bad_nI (k := k) (n := 4) hk (by decide)
    have hc := nI_clamp (n := k) (by omega)
    have h10 : 10 - nI (oN I k) = nI (10 - oN I k) := pk_sub (a := 10) o2
    have l1 : (nI (oN I k)).toInt64 = lN (oN I k) := nI_l (by omega)
    have l2 : (nI (10 - oN I k)).toInt64 = lN (10 - oN I k) := nI_l (by omega)
    show pm_V X (d + 2) 169 43 [some (.ref 82), some (.int (nI n)), some (.int b), some (.long v), none, some (.int (nI gs)), some (.long (lN w)), none, some (.int (nI k)), l9] [] (pm_S0 ++ g, B, J) Q = _
    rw [e_M_sure_43]
    unfold wtF gsB
    simp only [decide_eq_true_eq]
    by_cases q : nI gs >>> (nI k &&& 31) &&& 1 = 1
    · simp only [e_M_sure_45, e_M_sure_46, e_M_sure_49, e_M_sure_51, e_M_sure_52, e_M_sure_54, e_M_sure_56, e_M_sure_59, e_M_sure_62, e_M_sure_63, e_M_sure_66, e_M_sure_68, e_M_sure_69, e_M_sure_70, e_M_sure_84, e_M_sure_85, e_M_sure_87, e_M_sure_90, h1, q, sh_o_82, sh_r_82_8, sh_i_89, K_M_has, e9, hb, hc, o1, l1, lN_mul, nI_1, pm_opt_some, pm_opt_none, pm_opt_if, Bool.false_eq_true, Bool.not_false, Bool.not_true, if_false, if_true, true_and, and_true, true_or, or_true, not_true_eq_false, not_false_eq_true, q10, q00, q01, q11, pk_v, pk_i, pk_l, pk_r]
    · simp only [e_M_sure_45, e_M_sure_46, e_M_sure_49, e_M_sure_51, e_M_sure_52, e_M_sure_54, e_M_sure_56, e_M_sure_59, e_M_sure_73, e_M_sure_75, e_M_sure_76, e_M_sure_79, e_M_sure_81, e_M_sure_82, e_M_sure_83, e_M_sure_84, e_M_sure_85, e_M_sure_87, e_M_sure_90, h1, q, sh_o_82, sh_r_82_8, sh_i_89, K_M_has, e9, hb, hc, o1, h10, l2, lN_mul, nI_1, pm_opt_some, pm_opt_none, pm_opt_if, Bool.false_eq_true, Bool.not_false, Bool.not_true, if_false, if_true, true_and, and_true, true_or, or_true, not_true_eq_false, not_false_eq_true, q10, q00, q01, q11, pk_v, pk_i, pk_l, pk_r]) 4 0 1 (by omega)
  have h4 : ((4 : Int32) ≤ nI 4) = True := by decide
  simp only [nI_0, show lN 1 = 1 from rfl] at L
  simp only [e_M_sure_37, e_M_sure_38, e_M_sure_40, e_M_sure_41]
  rw [L, e_M_sure_43]
  simp only [e_M_sure_45, e_M_sure_46, h4, if_true]
  rfl
theorem M_su_h (hs : sfr I B) (hR : Rel B J) (hL : B 82 27 = -1) {v w : Int64} (hn : n ≤ 96) (hgs : gs < 16) : ∀ (r k : Nat) (p : Nat → Int32) (l9 : Option Value), k + r = n → Tok (suT I (nI gs) k) → ∃ p' l9', Tok (suT I (nI gs) n) ∧ ∀ (d : Nat) (Q : pm_O → Prop), pm_V X (d + 12) 169 110 [some (.ref 82), some (.int (nI n)), some (.int b), some (.long v), none, some (.int (nI gs)), some (.long w), none, some (.int (nI k)), l9] [] (pm_S0 ++ g, MS B (suT I (nI gs) k) (nI (hN I + k)) p, J) Q = pm_V X (d + 12) 169 172 [some (.ref 82), some (.int (nI n)), some (.int b), some (.long v), none, some (.int (nI gs)), some (.long w), none, some (.int (nI n)), l9'] [] (pm_S0 ++ g, MS B (suT I (nI gs) n) (nI (hN I + n)) p', J) Q := by
  have hX := Rel_WX hR
  have hN9 := Rel_hN9 hR
  have ehN : hN B = hN I := sfr_hN hs
  rw [ehN] at hN9
  have ehw : hwI B = hwI I := sfr_hw hs
  rw [ehw] at hX
  have isw : isW (hwI I) := hwI_is
  have e0 : B 82 0 = I 1 4 := hR.1.2.1.trans (by rw [sfr_at hs (q := 1) (by decide)])
  intro r
  induction r with
  | zero =>
    intro k p l9 hk hT
    obtain rfl : k = n := by omega
    refine ⟨p, l9, hT, fun d Q => ?_⟩
    rw [e_M_sure_110]
    simp only [e_M_sure_112, e_M_sure_113, Int32.le_refl, if_true]
  | succ r ih =>
    intro k p l9 hk hT
    have hq : (nI n ≤ nI k) = False := by
      rw [nI_le_l (by omega) (by omega)]
      exact eq_false (by omega)
    obtain ⟨p1, h2⟩ := K_M_goHour (X := X) (g := g) (J := J) (n := nI (hN I + k)) (p := p) hX (Rel_MC hR) hT (wgI_01 (I := I) (x := nI gs) (h := nI (hN I + k)))
    have eT : stM B (hwI I) (nI (hN I + k)) (wgI I (nI gs) (nI (hN I + k))) (suT I (nI gs) k) = suT I (nI gs) (k + 1) := by
      rw [suT_s, ← sfr_hs hs isw]
      unfold stM hsT stT
      funext i
      rw [lt_no hL]
    have hT' : Tok (suT I (nI gs) (k + 1)) := by
      rw [← eT]
      exact stM_ok hX (Rel_MC hR) hT
    rw [eT, nI_1] at h2
    obtain ⟨p', l9', hTn, h3⟩ := ih (k + 1) p1 (some (.int (nI (hN I + k) / 24 - I 1 4 / 24))) (by omega) hT'
    refine ⟨p', l9', hTn, fun d Q => ?_⟩
    have e26 : MS B (suT I (nI gs) k) (nI (hN I + k)) p 82 26 = nI (hN I + k) := by rw [MS_82, upd_app, if_pos rfl]
    have e82 : MS B (suT I (nI gs) k) (nI (hN I + k)) p 82 0 = I 1 4 := by rw [MS_82k (by decide)]; exact e0
    have e10 : MS B (suT I (nI gs) k) (nI (hN I + k)) p 82 10 = B 1 11 := by
      rw [MS_82k (by decide)]
      exact hR.1.2.2.2.2
    have ewm : (if dayI (nI (hN I + k)) < 10 ∧ MS B (suT I (nI gs) k) (nI (hN I + k)) p 82 1 >>> (dayI (nI (hN I + k)) &&& 31) &&& 1 = 1 then (1 : Int32) else 0) = wmI I (nI (hN I + k)) := by
      rw [MS_82k (by decide), hR.1.2.2.1, ← sfr_wm hs]
      rfl
    rw [← h3 d Q, e_M_sure_110]
    by_cases q1 : nI (hN I + k) / 24 - I 1 4 / 24 < 4
    · have q1' : ¬ 4 ≤ nI (hN I + k) / 24 - I 1 4 / 24 := Int32.not_le.mpr q1
      have eg : (if nI gs >>> ((nI (hN I + k) / 24 - I 1 4 / 24) &&& 31) &&& 1 = 1 then (1 : Int32) else 0) = wgI I (nI gs) (nI (hN I + k)) := by
        unfold wgI
        rw [if_pos q1]
      simp only [e_M_sure_112, e_M_sure_113, e_M_sure_116, e_M_sure_117, e_M_sure_120, e_M_sure_122, e_M_sure_123, e_M_sure_124, e_M_sure_127, e_M_sure_129, e_M_sure_130, e_M_sure_131, e_M_sure_133, e_M_sure_134, e_M_sure_135, e_M_sure_138, e_M_sure_140, e_M_sure_141, e_M_sure_144, e_M_sure_145, e_M_sure_147, e_M_sure_149, e_M_sure_152, e_M_sure_163, e_M_sure_166, e_M_sure_169, hq, sh_o_82, q24z, e26, e82, e10, q1', K_M_has, eg, h2, nI_1, pm_opt_some, pm_opt_none, pm_opt_if, Bool.false_eq_true, Bool.not_false, Bool.not_true, if_false, if_true, true_and, and_true, true_or, or_true, not_true_eq_false, not_false_eq_true, q10, q00, q01, q11, pk_v, pk_i, pk_l, pk_r]
      rfl
    · have q1' : 4 ≤ nI (hN I + k) / 24 - I 1 4 / 24 := Int32.not_lt.mp q1
      have eg : wmI I (nI (hN I + k)) = wgI I (nI gs) (nI (hN I + k)) := by
        unfold wgI
        rw [if_neg q1]
      simp only [e_M_sure_112, e_M_sure_113, e_M_sure_116, e_M_sure_117, e_M_sure_120, e_M_sure_122, e_M_sure_123, e_M_sure_124, e_M_sure_127, e_M_sure_129, e_M_sure_130, e_M_sure_131, e_M_sure_133, e_M_sure_134, e_M_sure_135, e_M_sure_138, e_M_sure_140, e_M_sure_141, e_M_sure_155, e_M_sure_156, e_M_sure_157, e_M_sure_160, e_M_sure_163, e_M_sure_166, e_M_sure_169, hq, sh_o_82, q24z, e26, e82, e10, q1', K_M_isWarm, ewm, eg, h2, nI_1, pm_opt_some, pm_opt_none, pm_opt_if, Bool.false_eq_true, Bool.not_false, Bool.not_true, if_false, if_true, true_and, and_true, true_or, or_true, not_true_eq_false, not_false_eq_true, q10, q00, q01, q11, pk_v, pk_i, pk_l, pk_r]
      rfl
theorem M_su_loop (hR0 : Rel I J) (hn : n ≤ 96) : ∀ (r k v : Nat) (B : Nat → Nat → Int32) (l6 l8 l9 : Option Value), k + r = 16 → sfr I B → Rel B J → ∃ B' l6' l8' l9', sfr B B' ∧ ∀ (d : Nat) (Q : pm_O → Prop), pm_V X (d + 12) 169 30 [some (.ref 82), some (.int (nI n)), some (.int b), some (.long (lN v)), none, some (.int (nI k)), l6, none, l8, l9] [] (pm_S0 ++ g, B, J) Q = pm_V X (d + 12) 169 194 [some (.ref 82), some (.int (nI n)), some (.int b), some (.long (lN (fld (abF I n) k r v))), none, some (.int (nI 16)), l6', none, l8', l9'] [] (pm_S0 ++ g, B', J) Q := by
  intro r
  induction r with
  | zero =>
    intro k v B l6 l8 l9 hk hs hR
    obtain rfl : k = 16 := by omega
    have h16 : ((16 : Int32) ≤ nI 16) = True := by decide
    refine ⟨B, l6, l8, l9, sfr_rf, fun d Q => ?_⟩
    rw [e_M_sure_30]
    simp only [e_M_sure_32, e_M_sure_34, h16, if_true]
    rfl
  | succ r ih =>
    intro k v B l6 l8 l9 hk hs hR
    have od : ∀ k, k < 4 → oN I k ≤ 10 := fun k hk => (Rel_od hR0 k hk).2
    have wb := wt_bd (gs := k) od
    have h1 : ((16 : Int32) ≤ nI k) = False := by
      rw [show (16 : Int32) = nI 16 from rfl, nI_le_l (by omega) (by omega)]
      exact eq_false (by omega)
    have hz := lg_z (v := wtN I k) (by omega)
    have kw := fun (d : Nat) (Q : pm_O → Prop) => M_su_w (X := X) (g := g) (b := b) (n := n) (gs := k) (v := lN v) (l6 := l6) (l8 := l8) (l9 := l9) hR0 hs hR (by omega) d Q
    by_cases q : wtN I k = 0
    · have ef : abF I n k v = v := by
        unfold abF
        rw [if_neg (fun z => by omega)]
      obtain ⟨B', x6, x8, x9, b1, h2⟩ := ih (k + 1) v B (some (.long (lN (wtN I k)))) (some (.int (nI 4))) l9 (by omega) hs hR
      refine ⟨B', x6, x8, x9, b1, fun d Q => ?_⟩
      rw [fld, ef, ← h2 d Q, e_M_sure_30]
      simp only [e_M_sure_32, e_M_sure_34, h1, if_false]
      show pm_V X (d + 10 + 2) 169 37 _ _ _ _ = _
      rw [kw, e_M_sure_93]
      have hz1 : (lg_cmp (lN (wtN I k)) 0 = 0) = True := hz.trans (eq_true q)
      simp only [e_M_sure_95, e_M_sure_96, e_M_sure_97, e_M_sure_100, e_M_sure_188, e_M_sure_191, hz1, nI_1, pm_opt_some, pm_opt_none, pm_opt_if, Bool.false_eq_true, Bool.not_false, Bool.not_true, if_false, if_true, true_and, and_true, true_or, or_true, not_true_eq_false, not_false_eq_true, q10, q00, q01, q11, pk_v, pk_i, pk_l, pk_r]
    · have hsL : sfr I (nL B) := sfr_tr hs nL_sfr
      have hRL := Rel_s nL_sfr hR
      obtain ⟨p', y9, hT, h3⟩ := M_su_h (X := X) (g := g) (J := J) (b := b) (v := lN v) (w := lN (wtN I k)) hsL hRL nL_27 hn (show k < 16 by omega) n 0 (B 98) l9 (by omega) (Rel_Tok hR0)
      have kb := fun (d : Nat) (P : pm_O → Prop) => K_M_bearsAll (X := X) (d := d) (P := P) (g := g) (J := J) (T := suT I (nI k) n) (n := nI (hN I + n)) (p := p') (Rel_86 hRL) (Rel_WXm hRL)
      have eb : allF (fun j => beI (thT (suT I (nI k) n j)) (ldI (nL B 6) j) (wbI (nL B) (hwI (nL B)))) 0 16 = suB I (nI k) n := by
        rw [sfr_at hsL (q := 6) (by decide), show wbI (nL B) (hwI (nL B)) = bI (nL B) from rfl, sfr_bI hsL]
        rfl
      rw [eb] at kb
      have hs1 : sfr B (MS (pm_up (nL B) 102 (fun i => if i < 16 then ldI (nL B 6) i else nL B 102 i)) (suT I (nI k) n) (nI (hN I + n)) p') := sfr_tr nL_sfr (sfr_tr sfr_102 MS_sfr)
      generalize MS (pm_up (nL B) 102 (fun i => if i < 16 then ldI (nL B 6) i else nL B 102 i)) (suT I (nI k) n) (nI (hN I + n)) p' = B1 at kb hs1
      have as := fun (d : Nat) (P : pm_O → Prop) => M_asIs (X := X) (d := d) (P := P) (g := g) hR hs
      have h3' := fun (d : Nat) (Q : pm_O → Prop) => h3 d Q
      simp only [Nat.add_zero, nI_0, show suT I (nI k) 0 = rowT I 3 4 5 from rfl] at h3'
      obtain ⟨B2, x6, x8, x9, b1, h2⟩ := ih (k + 1) (abF I n k v) B1 (some (.long (lN (wtN I k)))) (some (.int (nI n))) y9 (by omega) (sfr_tr hs hs1) (Rel_s hs1 hR)
      refine ⟨B2, x6, x8, x9, sfr_tr hs1 b1, fun d Q => ?_⟩
      rw [fld, ← h2 d Q, e_M_sure_30]
      simp only [e_M_sure_32, e_M_sure_34, h1, if_false]
      show pm_V X (d + 10 + 2) 169 37 _ _ _ _ = _
      rw [kw, e_M_sure_93]
      simp only [e_M_sure_95, e_M_sure_96, e_M_sure_97, e_M_sure_103, e_M_sure_104, e_M_sure_107, e_M_sure_108, hz, q, sh_o_82, as, pm_opt_some, pm_opt_none, pm_opt_if, Bool.false_eq_true, Bool.not_false, Bool.not_true, if_false, if_true, true_and, and_true, true_or, or_true, not_true_eq_false, not_false_eq_true, q10, q00, q01, q11, pk_v, pk_i, pk_l, pk_r]
      refine (h3' d Q).trans ?_
      rw [e_M_sure_172]
      by_cases q2 : suB I (nI k) n = true
      · have ef : abF I n k v = v + wtN I k := by
          unfold abF
          rw [if_pos ⟨by omega, q2⟩]
        rw [q2] at kb
        simp only [e_M_sure_173, e_M_sure_174, e_M_sure_177, e_M_sure_180, e_M_sure_182, e_M_sure_186, e_M_sure_187, e_M_sure_188, e_M_sure_191, sh_o_82, kb, ef, lN_add, nI_1, pm_opt_some, pm_opt_none, pm_opt_if, Bool.false_eq_true, Bool.not_false, Bool.not_true, if_false, if_true, true_and, and_true, true_or, or_true, not_true_eq_false, not_false_eq_true, q10, q00, q01, q11, pk_v, pk_i, pk_l, pk_r]
      · have ef : abF I n k v = v := by
          unfold abF
          rw [if_neg (fun z => q2 z.2)]
        rw [Bool.not_eq_true] at q2
        rw [q2] at kb
        simp only [e_M_sure_173, e_M_sure_174, e_M_sure_177, e_M_sure_185, e_M_sure_186, e_M_sure_187, e_M_sure_188, e_M_sure_191, sh_o_82, kb, ef, Int64.add_zero, nI_1, pm_opt_some, pm_opt_none, pm_opt_if, Bool.false_eq_true, Bool.not_false, Bool.not_true, if_false, if_true, true_and, and_true, true_or, or_true, not_true_eq_false, not_false_eq_true, q10, q00, q01, q11, pk_v, pk_i, pk_l, pk_r]
theorem Pair_sure (hR : Rel I J) : Pair X 24 169 [.int a, .int b] g I J := by
  by_cases ha : 1 ≤ a ∧ a ≤ 96
  · by_cases hb : 0 ≤ b ∧ b ≤ 1
    · have h0 : 0 ≤ a ∧ a ≤ 96 := by
        refine ⟨?_, ha.2⟩
        have := ha.1
        rw [i_le, k1] at this
        rw [i_le, k0]
        omega
      obtain ⟨m, hm, rfl⟩ := in_of (m := 96) rfl h0
      have od : ∀ k, k < 4 → oN I k ≤ 10 := fun k hk => (Rel_od hR k hk).2
      have vb : abN I m ≤ 160000 := ab_bd (n := m) (k := 16) od
      have gp : 0 < Nat.gcd 10000 (abN I m) := Nat.gcd_pos_of_pos_left _ (by decide)
      have gl : Nat.gcd 10000 (abN I m) ≤ 10000 := Nat.gcd_le_left _ (by decide)
      refine Pair_q (v := .long (suV (abN I m) b)) hR ?_ (fun I1 h1 hR1 => ?_)
      · have hs44 : sfr I (pm_up I 44 (fun k => if k < 16 then ldI (I 6) k else I 44 k)) := sfr_of (L := [44]) (by decide) (pm_fr_up (by decide))
        obtain ⟨T', l5, hl⟩ := B_su_loop (X := X) (g := g) (b := b) (n := m) hs44 hR (Rel_s hs44 hR) (fun c hc => by rw [pu_eq, if_pos hc]) hm 16 0 0 (rowT (pm_up I 44 (fun k => if k < 16 then ldI (I 6) k else I 44 k)) 36 37 38) none (by omega)
        rw [upC_self, nI_0] at hl
        refine ⟨upC (pm_up I 44 (fun k => if k < 16 then ldI (I 6) k else I 44 k)) 36 37 38 T' 16, sfr_tr hs44 ask_sfr, K50 fun d' => ?_⟩
        have hl' := hl (d' + 37)
        rw [show fld (abF I m) 0 16 0 = abN I m from rfl] at hl'
        have hd : 2 ≤ d' + 49 := by omega
        have mx : maxI 1 (nI (Nat.gcd 10000 (abN I m))) = nI (Nat.gcd 10000 (abN I m)) := by
          rw [i_eq, maxI_toInt, nI_toInt (by omega), k1]
          omega
        have g0 : ¬ nI (Nat.gcd 10000 (abN I m)) = 0 := nI_ne0 gp (by omega)
        have dv1 : nI (abN I m) / nI (Nat.gcd 10000 (abN I m)) = nI (abN I m / Nat.gcd 10000 (abN I m)) := pk_div (by omega) gp (by omega)
        have dv2 : 10000 / nI (Nat.gcd 10000 (abN I m)) = nI (10000 / Nat.gcd 10000 (abN I m)) := pk_div (a := 10000) (by decide) gp (by omega)
        have l1 : (nI (abN I m / Nat.gcd 10000 (abN I m))).toInt64 = lN (abN I m / Nat.gcd 10000 (abN I m)) := nI_l (by have := Nat.div_le_self (abN I m) (Nat.gcd 10000 (abN I m)); omega)
        have l2 : (nI (10000 / Nat.gcd 10000 (abN I m))).toInt64 = lN (10000 / Nat.gcd 10000 (abN I m)) := nI_l (by have := Nat.div_le_self 10000 (Nat.gcd 10000 (abN I m)); omega)
        show pm_V X (d' + 49) 24 0 [some (.ref 0), some (.int (nI m)), some (.int b), none, none, none] [] (pm_S0 ++ g, I, J) _
        simp only [e_B_sure_0, e_B_sure_1, e_B_sure_2, e_B_sure_4, e_B_sure_7, e_B_sure_10, e_B_sure_11, e_B_sure_12, e_B_sure_13, e_B_sure_16, e_B_sure_19, e_B_sure_22, e_B_sure_23, e_B_sure_24, e_B_sure_25, e_B_sure_28, e_B_sure_31, e_B_sure_34, e_B_sure_35, e_B_sure_36, e_B_sure_37, e_B_sure_41, e_B_sure_43, e_B_sure_46, e_B_sure_47, e_B_sure_49, e_B_sure_52, e_B_sure_54, e_B_sure_56, e_B_sure_59, e_B_sure_60, e_B_sure_61, e_B_sure_63, e_B_sure_66, e_B_sure_69, e_B_sure_70, e_B_sure_72, e_B_sure_73, e_B_sure_74, e_B_sure_77, e_B_sure_83, e_B_sure_84, e_B_sure_87, e_B_sure_89, e_B_sure_90, e_B_sure_93, e_B_sure_94, e_B_sure_97, e_B_sure_100, e_B_sure_101, e_B_sure_103, e_B_sure_106, e_B_sure_107, e_B_sure_108, K_B_isWithin, eq_true ha, eq_true hb, sh_o_0, sh_r_0_0, sh_r_1_1, K_B_fillLoads (g := g) (a := 6) rfl (by decide), pm_opt_some, pm_opt_none, pm_opt_if, Bool.false_eq_true, Bool.not_false, Bool.not_true, if_false, if_true, true_and, and_true, true_or, or_true, not_true_eq_false, not_false_eq_true, q10, q00, q01, q11, pk_v, pk_i, pk_l, pk_r]
        refine Eq.mpr (hl' _) ?_
        rw [e_B_sure_80]
        unfold suV
        by_cases q0 : b = 0
        · simp only [e_B_sure_0, e_B_sure_1, e_B_sure_2, e_B_sure_4, e_B_sure_7, e_B_sure_10, e_B_sure_11, e_B_sure_12, e_B_sure_13, e_B_sure_16, e_B_sure_19, e_B_sure_22, e_B_sure_23, e_B_sure_24, e_B_sure_25, e_B_sure_28, e_B_sure_31, e_B_sure_34, e_B_sure_35, e_B_sure_36, e_B_sure_37, e_B_sure_41, e_B_sure_43, e_B_sure_46, e_B_sure_47, e_B_sure_49, e_B_sure_52, e_B_sure_54, e_B_sure_56, e_B_sure_59, e_B_sure_60, e_B_sure_61, e_B_sure_63, e_B_sure_66, e_B_sure_69, e_B_sure_70, e_B_sure_72, e_B_sure_73, e_B_sure_74, e_B_sure_77, e_B_sure_83, e_B_sure_84, e_B_sure_87, e_B_sure_89, e_B_sure_90, e_B_sure_93, e_B_sure_94, e_B_sure_97, e_B_sure_100, e_B_sure_101, e_B_sure_103, e_B_sure_106, e_B_sure_107, e_B_sure_108, K_B_gcd (show abN I m < 2 ^ 20 by omega), hd, maxI_d, mx, g0, dv1, l1, q0, pm_opt_some, pm_opt_none, pm_opt_if, Bool.false_eq_true, Bool.not_false, Bool.not_true, if_false, if_true, true_and, and_true, true_or, or_true, not_true_eq_false, not_false_eq_true, q10, q00, q01, q11, pk_v, pk_i, pk_l, pk_r]
        · simp only [e_B_sure_0, e_B_sure_1, e_B_sure_2, e_B_sure_4, e_B_sure_7, e_B_sure_10, e_B_sure_11, e_B_sure_12, e_B_sure_13, e_B_sure_16, e_B_sure_19, e_B_sure_22, e_B_sure_23, e_B_sure_24, e_B_sure_25, e_B_sure_28, e_B_sure_31, e_B_sure_34, e_B_sure_35, e_B_sure_36, e_B_sure_37, e_B_sure_41, e_B_sure_43, e_B_sure_46, e_B_sure_47, e_B_sure_49, e_B_sure_52, e_B_sure_54, e_B_sure_56, e_B_sure_59, e_B_sure_60, e_B_sure_61, e_B_sure_63, e_B_sure_66, e_B_sure_69, e_B_sure_70, e_B_sure_72, e_B_sure_73, e_B_sure_74, e_B_sure_77, e_B_sure_83, e_B_sure_84, e_B_sure_87, e_B_sure_89, e_B_sure_90, e_B_sure_93, e_B_sure_94, e_B_sure_97, e_B_sure_100, e_B_sure_101, e_B_sure_103, e_B_sure_106, e_B_sure_107, e_B_sure_108, K_B_gcd (show abN I m < 2 ^ 20 by omega), hd, maxI_d, mx, g0, dv2, l2, q0, pm_opt_some, pm_opt_none, pm_opt_if, Bool.false_eq_true, Bool.not_false, Bool.not_true, if_false, if_true, true_and, and_true, true_or, or_true, not_true_eq_false, not_false_eq_true, q10, q00, q01, q11, pk_v, pk_i, pk_l, pk_r]
      · obtain ⟨B', x6, x8, x9, b1, hl⟩ := M_su_loop (X := X) (g := g) (b := b) (n := m) hR hm 16 0 0 I1 none none none (by omega) h1 hR1
        refine ⟨B', b1, K50 fun d' => ?_⟩
        have hl' := hl (d' + 37)
        rw [show fld (abF I m) 0 16 0 = abN I m from rfl, nI_0, show lN 0 = 0 from rfl] at hl'
        have g0 : ¬ lN (Nat.gcd 10000 (abN I m)) = 0 := fun z => by
          have := (lN_eq (b := 0) (show Nat.gcd 10000 (abN I m) < 2 ^ 31 by omega) (by decide)).mp z
          omega
        have dv1 : lN (abN I m) / lN (Nat.gcd 10000 (abN I m)) = lN (abN I m / Nat.gcd 10000 (abN I m)) := pk_lDiv (by omega) gp (by omega)
        have dv2 : 10000 / lN (Nat.gcd 10000 (abN I m)) = lN (10000 / Nat.gcd 10000 (abN I m)) := pk_lDiv (a := 10000) (by decide) gp (by omega)
        show pm_V X (d' + 49) 169 0 [some (.ref 82), some (.int (nI m)), some (.int b), none, none, none, none, none, none, none] [] (pm_S0 ++ g, I1, J) _
        simp only [e_M_sure_0, e_M_sure_1, e_M_sure_2, e_M_sure_3, e_M_sure_5, e_M_sure_8, e_M_sure_11, e_M_sure_12, e_M_sure_13, e_M_sure_14, e_M_sure_15, e_M_sure_18, e_M_sure_21, e_M_sure_24, e_M_sure_25, e_M_sure_26, e_M_sure_27, e_M_sure_28, e_M_sure_32, e_M_sure_34, e_M_sure_38, e_M_sure_40, e_M_sure_41, e_M_sure_45, e_M_sure_46, e_M_sure_49, e_M_sure_51, e_M_sure_52, e_M_sure_54, e_M_sure_56, e_M_sure_59, e_M_sure_62, e_M_sure_63, e_M_sure_66, e_M_sure_68, e_M_sure_69, e_M_sure_70, e_M_sure_73, e_M_sure_75, e_M_sure_76, e_M_sure_79, e_M_sure_81, e_M_sure_82, e_M_sure_83, e_M_sure_84, e_M_sure_85, e_M_sure_87, e_M_sure_90, e_M_sure_93, e_M_sure_95, e_M_sure_96, e_M_sure_97, e_M_sure_100, e_M_sure_103, e_M_sure_104, e_M_sure_107, e_M_sure_108, e_M_sure_112, e_M_sure_113, e_M_sure_116, e_M_sure_117, e_M_sure_120, e_M_sure_122, e_M_sure_123, e_M_sure_124, e_M_sure_127, e_M_sure_129, e_M_sure_130, e_M_sure_131, e_M_sure_133, e_M_sure_134, e_M_sure_135, e_M_sure_138, e_M_sure_140, e_M_sure_141, e_M_sure_144, e_M_sure_145, e_M_sure_147, e_M_sure_149, e_M_sure_152, e_M_sure_155, e_M_sure_156, e_M_sure_157, e_M_sure_160, e_M_sure_163, e_M_sure_166, e_M_sure_169, e_M_sure_172, e_M_sure_173, e_M_sure_174, e_M_sure_177, e_M_sure_180, e_M_sure_182, e_M_sure_185, e_M_sure_186, e_M_sure_187, e_M_sure_188, e_M_sure_191, e_M_sure_195, e_M_sure_196, e_M_sure_199, e_M_sure_202, e_M_sure_204, e_M_sure_205, e_M_sure_208, e_M_sure_209, e_M_sure_211, e_M_sure_212, e_M_sure_215, e_M_sure_218, e_M_sure_220, e_M_sure_221, sh_o_82, K_M_in, eq_true ha, eq_true hb, pm_opt_some, pm_opt_none, pm_opt_if, Bool.false_eq_true, Bool.not_false, Bool.not_true, if_false, if_true, true_and, and_true, true_or, or_true, not_true_eq_false, not_false_eq_true, q10, q00, q01, q11, pk_v, pk_i, pk_l, pk_r]
        refine Eq.mpr (hl' _) ?_
        rw [e_M_sure_194]
        unfold suV
        by_cases q0 : b = 0
        · simp only [e_M_sure_0, e_M_sure_1, e_M_sure_2, e_M_sure_3, e_M_sure_5, e_M_sure_8, e_M_sure_11, e_M_sure_12, e_M_sure_13, e_M_sure_14, e_M_sure_15, e_M_sure_18, e_M_sure_21, e_M_sure_24, e_M_sure_25, e_M_sure_26, e_M_sure_27, e_M_sure_28, e_M_sure_32, e_M_sure_34, e_M_sure_38, e_M_sure_40, e_M_sure_41, e_M_sure_45, e_M_sure_46, e_M_sure_49, e_M_sure_51, e_M_sure_52, e_M_sure_54, e_M_sure_56, e_M_sure_59, e_M_sure_62, e_M_sure_63, e_M_sure_66, e_M_sure_68, e_M_sure_69, e_M_sure_70, e_M_sure_73, e_M_sure_75, e_M_sure_76, e_M_sure_79, e_M_sure_81, e_M_sure_82, e_M_sure_83, e_M_sure_84, e_M_sure_85, e_M_sure_87, e_M_sure_90, e_M_sure_93, e_M_sure_95, e_M_sure_96, e_M_sure_97, e_M_sure_100, e_M_sure_103, e_M_sure_104, e_M_sure_107, e_M_sure_108, e_M_sure_112, e_M_sure_113, e_M_sure_116, e_M_sure_117, e_M_sure_120, e_M_sure_122, e_M_sure_123, e_M_sure_124, e_M_sure_127, e_M_sure_129, e_M_sure_130, e_M_sure_131, e_M_sure_133, e_M_sure_134, e_M_sure_135, e_M_sure_138, e_M_sure_140, e_M_sure_141, e_M_sure_144, e_M_sure_145, e_M_sure_147, e_M_sure_149, e_M_sure_152, e_M_sure_155, e_M_sure_156, e_M_sure_157, e_M_sure_160, e_M_sure_163, e_M_sure_166, e_M_sure_169, e_M_sure_172, e_M_sure_173, e_M_sure_174, e_M_sure_177, e_M_sure_180, e_M_sure_182, e_M_sure_185, e_M_sure_186, e_M_sure_187, e_M_sure_188, e_M_sure_191, e_M_sure_195, e_M_sure_196, e_M_sure_199, e_M_sure_202, e_M_sure_204, e_M_sure_205, e_M_sure_208, e_M_sure_209, e_M_sure_211, e_M_sure_212, e_M_sure_215, e_M_sure_218, e_M_sure_220, e_M_sure_221, sh_o_82, K_M_gcd (show abN I m < 2 ^ 31 by omega), g0, dv1, q0, pm_opt_some, pm_opt_none, pm_opt_if, Bool.false_eq_true, Bool.not_false, Bool.not_true, if_false, if_true, true_and, and_true, true_or, or_true, not_true_eq_false, not_false_eq_true, q10, q00, q01, q11, pk_v, pk_i, pk_l, pk_r]
        · simp only [e_M_sure_0, e_M_sure_1, e_M_sure_2, e_M_sure_3, e_M_sure_5, e_M_sure_8, e_M_sure_11, e_M_sure_12, e_M_sure_13, e_M_sure_14, e_M_sure_15, e_M_sure_18, e_M_sure_21, e_M_sure_24, e_M_sure_25, e_M_sure_26, e_M_sure_27, e_M_sure_28, e_M_sure_32, e_M_sure_34, e_M_sure_38, e_M_sure_40, e_M_sure_41, e_M_sure_45, e_M_sure_46, e_M_sure_49, e_M_sure_51, e_M_sure_52, e_M_sure_54, e_M_sure_56, e_M_sure_59, e_M_sure_62, e_M_sure_63, e_M_sure_66, e_M_sure_68, e_M_sure_69, e_M_sure_70, e_M_sure_73, e_M_sure_75, e_M_sure_76, e_M_sure_79, e_M_sure_81, e_M_sure_82, e_M_sure_83, e_M_sure_84, e_M_sure_85, e_M_sure_87, e_M_sure_90, e_M_sure_93, e_M_sure_95, e_M_sure_96, e_M_sure_97, e_M_sure_100, e_M_sure_103, e_M_sure_104, e_M_sure_107, e_M_sure_108, e_M_sure_112, e_M_sure_113, e_M_sure_116, e_M_sure_117, e_M_sure_120, e_M_sure_122, e_M_sure_123, e_M_sure_124, e_M_sure_127, e_M_sure_129, e_M_sure_130, e_M_sure_131, e_M_sure_133, e_M_sure_134, e_M_sure_135, e_M_sure_138, e_M_sure_140, e_M_sure_141, e_M_sure_144, e_M_sure_145, e_M_sure_147, e_M_sure_149, e_M_sure_152, e_M_sure_155, e_M_sure_156, e_M_sure_157, e_M_sure_160, e_M_sure_163, e_M_sure_166, e_M_sure_169, e_M_sure_172, e_M_sure_173, e_M_sure_174, e_M_sure_177, e_M_sure_180, e_M_sure_182, e_M_sure_185, e_M_sure_186, e_M_sure_187, e_M_sure_188, e_M_sure_191, e_M_sure_195, e_M_sure_196, e_M_sure_199, e_M_sure_202, e_M_sure_204, e_M_sure_205, e_M_sure_208, e_M_sure_209, e_M_sure_211, e_M_sure_212, e_M_sure_215, e_M_sure_218, e_M_sure_220, e_M_sure_221, sh_o_82, K_M_gcd (show abN I m < 2 ^ 31 by omega), g0, dv2, q0, pm_opt_some, pm_opt_none, pm_opt_if, Bool.false_eq_true, Bool.not_false, Bool.not_true, if_false, if_true, true_and, and_true, true_or, or_true, not_true_eq_false, not_false_eq_true, q10, q00, q01, q11, pk_v, pk_i, pk_l, pk_r]
    · exact Pair_q (v := .long (-9223372036854775808)) hR ⟨I, sfr_rf, K50 fun d' => by { show pm_V X (d' + 49) 24 0 [some (.ref 0), some (.int a), some (.int b), none, none, none] [] (pm_S0 ++ g, I, J) _; simp only [e_B_sure_0, e_B_sure_1, e_B_sure_2, e_B_sure_4, e_B_sure_7, e_B_sure_10, e_B_sure_11, e_B_sure_12, e_B_sure_13, e_B_sure_16, e_B_sure_19, e_B_sure_22, e_B_sure_24, e_B_sure_25, e_B_sure_28, e_B_sure_31, e_B_sure_34, e_B_sure_35, e_B_sure_36, e_B_sure_37, e_B_sure_39, e_B_sure_41, e_B_sure_43, e_B_sure_46, e_B_sure_47, e_B_sure_49, e_B_sure_52, e_B_sure_54, e_B_sure_56, e_B_sure_59, e_B_sure_60, e_B_sure_61, e_B_sure_63, e_B_sure_66, e_B_sure_69, e_B_sure_70, e_B_sure_72, e_B_sure_73, e_B_sure_74, e_B_sure_77, e_B_sure_80, e_B_sure_83, e_B_sure_84, e_B_sure_87, e_B_sure_89, e_B_sure_90, e_B_sure_93, e_B_sure_94, e_B_sure_97, e_B_sure_100, e_B_sure_101, e_B_sure_103, e_B_sure_106, e_B_sure_107, e_B_sure_108, K_B_isWithin, eq_true ha, eq_false hb, pm_opt_some, pm_opt_none, pm_opt_if, Bool.false_eq_true, Bool.not_false, Bool.not_true, if_false, if_true, true_and, and_true, true_or, or_true, not_true_eq_false, not_false_eq_true, q10, q00, q01, q11, pk_v, pk_i, pk_l, pk_r] }⟩ (fun I1 h1 hR1 => ⟨I1, sfr_rf, K50 fun d' => by { show pm_V X (d' + 49) 169 0 [some (.ref 82), some (.int a), some (.int b), none, none, none, none, none, none, none] [] (pm_S0 ++ g, I1, J) _; simp only [e_M_sure_0, e_M_sure_1, e_M_sure_2, e_M_sure_3, e_M_sure_5, e_M_sure_8, e_M_sure_11, e_M_sure_12, e_M_sure_13, e_M_sure_14, e_M_sure_15, e_M_sure_18, e_M_sure_21, e_M_sure_24, e_M_sure_26, e_M_sure_27, e_M_sure_28, e_M_sure_30, e_M_sure_32, e_M_sure_34, e_M_sure_37, e_M_sure_38, e_M_sure_40, e_M_sure_41, e_M_sure_43, e_M_sure_45, e_M_sure_46, e_M_sure_49, e_M_sure_51, e_M_sure_52, e_M_sure_54, e_M_sure_56, e_M_sure_59, e_M_sure_62, e_M_sure_63, e_M_sure_66, e_M_sure_68, e_M_sure_69, e_M_sure_70, e_M_sure_73, e_M_sure_75, e_M_sure_76, e_M_sure_79, e_M_sure_81, e_M_sure_82, e_M_sure_83, e_M_sure_84, e_M_sure_85, e_M_sure_87, e_M_sure_90, e_M_sure_93, e_M_sure_95, e_M_sure_96, e_M_sure_97, e_M_sure_100, e_M_sure_103, e_M_sure_104, e_M_sure_107, e_M_sure_108, e_M_sure_110, e_M_sure_112, e_M_sure_113, e_M_sure_116, e_M_sure_117, e_M_sure_120, e_M_sure_122, e_M_sure_123, e_M_sure_124, e_M_sure_127, e_M_sure_129, e_M_sure_130, e_M_sure_131, e_M_sure_133, e_M_sure_134, e_M_sure_135, e_M_sure_138, e_M_sure_140, e_M_sure_141, e_M_sure_144, e_M_sure_145, e_M_sure_147, e_M_sure_149, e_M_sure_152, e_M_sure_155, e_M_sure_156, e_M_sure_157, e_M_sure_160, e_M_sure_163, e_M_sure_166, e_M_sure_169, e_M_sure_172, e_M_sure_173, e_M_sure_174, e_M_sure_177, e_M_sure_180, e_M_sure_182, e_M_sure_185, e_M_sure_186, e_M_sure_187, e_M_sure_188, e_M_sure_191, e_M_sure_194, e_M_sure_195, e_M_sure_196, e_M_sure_199, e_M_sure_202, e_M_sure_204, e_M_sure_205, e_M_sure_208, e_M_sure_209, e_M_sure_211, e_M_sure_212, e_M_sure_215, e_M_sure_218, e_M_sure_220, e_M_sure_221, sh_o_82, K_M_in, eq_true ha, eq_false hb, pm_opt_some, pm_opt_none, pm_opt_if, Bool.false_eq_true, Bool.not_false, Bool.not_true, if_false, if_true, true_and, and_true, true_or, or_true, not_true_eq_false, not_false_eq_true, q10, q00, q01, q11, pk_v, pk_i, pk_l, pk_r] }⟩)
  · exact Pair_q (v := .long (-9223372036854775808)) hR ⟨I, sfr_rf, K50 fun d' => by { show pm_V X (d' + 49) 24 0 [some (.ref 0), some (.int a), some (.int b), none, none, none] [] (pm_S0 ++ g, I, J) _; simp only [e_B_sure_0, e_B_sure_1, e_B_sure_2, e_B_sure_4, e_B_sure_7, e_B_sure_10, e_B_sure_11, e_B_sure_12, e_B_sure_13, e_B_sure_16, e_B_sure_19, e_B_sure_22, e_B_sure_24, e_B_sure_25, e_B_sure_28, e_B_sure_31, e_B_sure_34, e_B_sure_35, e_B_sure_36, e_B_sure_37, e_B_sure_39, e_B_sure_41, e_B_sure_43, e_B_sure_46, e_B_sure_47, e_B_sure_49, e_B_sure_52, e_B_sure_54, e_B_sure_56, e_B_sure_59, e_B_sure_60, e_B_sure_61, e_B_sure_63, e_B_sure_66, e_B_sure_69, e_B_sure_70, e_B_sure_72, e_B_sure_73, e_B_sure_74, e_B_sure_77, e_B_sure_80, e_B_sure_83, e_B_sure_84, e_B_sure_87, e_B_sure_89, e_B_sure_90, e_B_sure_93, e_B_sure_94, e_B_sure_97, e_B_sure_100, e_B_sure_101, e_B_sure_103, e_B_sure_106, e_B_sure_107, e_B_sure_108, K_B_isWithin, eq_false ha, pm_opt_some, pm_opt_none, pm_opt_if, Bool.false_eq_true, Bool.not_false, Bool.not_true, if_false, if_true, true_and, and_true, true_or, or_true, not_true_eq_false, not_false_eq_true, q10, q00, q01, q11, pk_v, pk_i, pk_l, pk_r] }⟩ (fun I1 h1 hR1 => ⟨I1, sfr_rf, K50 fun d' => by { show pm_V X (d' + 49) 169 0 [some (.ref 82), some (.int a), some (.int b), none, none, none, none, none, none, none] [] (pm_S0 ++ g, I1, J) _; simp only [e_M_sure_0, e_M_sure_1, e_M_sure_2, e_M_sure_3, e_M_sure_5, e_M_sure_8, e_M_sure_11, e_M_sure_12, e_M_sure_13, e_M_sure_14, e_M_sure_15, e_M_sure_18, e_M_sure_21, e_M_sure_24, e_M_sure_26, e_M_sure_27, e_M_sure_28, e_M_sure_30, e_M_sure_32, e_M_sure_34, e_M_sure_37, e_M_sure_38, e_M_sure_40, e_M_sure_41, e_M_sure_43, e_M_sure_45, e_M_sure_46, e_M_sure_49, e_M_sure_51, e_M_sure_52, e_M_sure_54, e_M_sure_56, e_M_sure_59, e_M_sure_62, e_M_sure_63, e_M_sure_66, e_M_sure_68, e_M_sure_69, e_M_sure_70, e_M_sure_73, e_M_sure_75, e_M_sure_76, e_M_sure_79, e_M_sure_81, e_M_sure_82, e_M_sure_83, e_M_sure_84, e_M_sure_85, e_M_sure_87, e_M_sure_90, e_M_sure_93, e_M_sure_95, e_M_sure_96, e_M_sure_97, e_M_sure_100, e_M_sure_103, e_M_sure_104, e_M_sure_107, e_M_sure_108, e_M_sure_110, e_M_sure_112, e_M_sure_113, e_M_sure_116, e_M_sure_117, e_M_sure_120, e_M_sure_122, e_M_sure_123, e_M_sure_124, e_M_sure_127, e_M_sure_129, e_M_sure_130, e_M_sure_131, e_M_sure_133, e_M_sure_134, e_M_sure_135, e_M_sure_138, e_M_sure_140, e_M_sure_141, e_M_sure_144, e_M_sure_145, e_M_sure_147, e_M_sure_149, e_M_sure_152, e_M_sure_155, e_M_sure_156, e_M_sure_157, e_M_sure_160, e_M_sure_163, e_M_sure_166, e_M_sure_169, e_M_sure_172, e_M_sure_173, e_M_sure_174, e_M_sure_177, e_M_sure_180, e_M_sure_182, e_M_sure_185, e_M_sure_186, e_M_sure_187, e_M_sure_188, e_M_sure_191, e_M_sure_194, e_M_sure_195, e_M_sure_196, e_M_sure_199, e_M_sure_202, e_M_sure_204, e_M_sure_205, e_M_sure_208, e_M_sure_209, e_M_sure_211, e_M_sure_212, e_M_sure_215, e_M_sure_218, e_M_sure_220, e_M_sure_221, sh_o_82, K_M_in, eq_false ha, pm_opt_some, pm_opt_none, pm_opt_if, Bool.false_eq_true, Bool.not_false, Bool.not_true, if_false, if_true, true_and, and_true, true_or, or_true, not_true_eq_false, not_false_eq_true, q10, q00, q01, q11, pk_v, pk_i, pk_l, pk_r] }⟩)
end P58
