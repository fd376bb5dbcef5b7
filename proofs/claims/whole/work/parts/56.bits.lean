/-! bits of CELLS; who can be reached -/
section P56
variable {X : pm_X} {d : Nat} {P Q : pm_O → Prop} {g : List pm_S} {S : List pm_S} {I I' I1 B C : Nat → Nat → Int32} {J J' : Nat → Nat → Int64} {j w m n h f : Nat} {c a b s l x y : Int32} {fi : Int32} {p : Nat → Int32} {T U : Nat → T3}
theorem bt_or2 : bt (x ||| y) j = (bt x j || bt y j) := by
  unfold bt
  rw [Int32.toBitVec_or, BitVec.getLsbD_or]
theorem bt_and2 : bt (x &&& y) j = (bt x j && bt y j) := by
  unfold bt
  rw [Int32.toBitVec_and, BitVec.getLsbD_and]
theorem bt_hi (hj : 32 ≤ j) : bt x j = false := BitVec.getLsbD_of_ge _ _ hj
theorem bt_m1 (hj : j < 32) : bt (x ^^^ (-1)) j = !bt x j := by
  unfold bt
  rw [Int32.toBitVec_xor, BitVec.getLsbD_xor, show (-1 : Int32).toBitVec = BitVec.allOnes 32 from rfl, BitVec.getLsbD_allOnes]
  simp [hj]
theorem bt_ext (h : ∀ j, j < 32 → bt x j = bt y j) : x = y := Int32.toBitVec_inj.mp (BitVec.eq_of_getLsbD_eq (fun i hi => h i hi))
theorem bt_z : bt 0 j = false := by
  unfold bt
  rw [show (0 : Int32).toBitVec = 0#32 from rfl, BitVec.getLsbD_zero]
theorem bt_ne0 : (¬ x = 0) ↔ ∃ j, j < 32 ∧ bt x j = true := by
  constructor
  · intro h
    refine Classical.byContradiction (fun z => h (bt_ext (fun j hj => ?_)))
    rw [bt_z]
    cases e : bt x j with
    | false => rfl
    | true => exact absurd ⟨j, hj, e⟩ z
  · rintro ⟨j, hj, e⟩ rfl
    rw [bt_z] at e
    cases e
theorem bit_all : ∀ c, c < 16 → ∀ j, j < 32 → bt (1 <<< (nI c &&& 31)) j = decide (j = c) := by decide +kernel
theorem nbt_all : ∀ c, c < 16 → ∀ o, o < 32 → bt (nearE (1 <<< (nI c &&& 31))) o = (decide (o < 16) && nrB (nI c) (nI o)) := by decide +kernel
theorem nr_sym : ∀ c, c < 16 → ∀ o, o < 16 → nrB (nI c) (nI o) = nrB (nI o) (nI c) := by decide +kernel
theorem bt_15 : ∀ j, j < 32 → bt 15 j = decide (j < 4) := by decide +kernel
theorem shore_all : ∀ c, c < 16 → ((1 <<< (nI c &&& 31) &&& 15 = 0) ↔ ¬ c < 4) := by decide +kernel
theorem bt_shl4 : (x <<< ((4 : Int32) &&& 31)).toBitVec = x.toBitVec <<< 4 := rfl
theorem bt_us1 : ((x.toUInt32 >>> (Int32.toUInt32 1 &&& Int32.toUInt32 31)).toInt32).toBitVec = x.toBitVec >>> 1 := rfl
theorem bt_us4 : ((x.toUInt32 >>> (Int32.toUInt32 4 &&& Int32.toUInt32 31)).toInt32).toBitVec = x.toBitVec >>> 4 := rfl
theorem nearE_0 : nearE 0 = 0 := by decide +kernel
theorem nearE_or : nearE (x ||| y) = nearE x ||| nearE y := by
  refine bt_ext (fun i hi => ?_)
  unfold bt nearE
  simp only [Int32.toBitVec_and, Int32.toBitVec_or, bt_shl, bt_shl4, bt_us1, bt_us4, BitVec.getLsbD_and, BitVec.getLsbD_or, BitVec.getLsbD_shiftLeft, BitVec.getLsbD_ushiftRight]
  generalize x.toBitVec.getLsbD (i - 1) = x1
  generalize x.toBitVec.getLsbD (1 + i) = x2
  generalize x.toBitVec.getLsbD (i - 4) = x3
  generalize x.toBitVec.getLsbD (4 + i) = x4
  generalize y.toBitVec.getLsbD (i - 1) = y1
  generalize y.toBitVec.getLsbD (1 + i) = y2
  generalize y.toBitVec.getLsbD (i - 4) = y3
  generalize y.toBitVec.getLsbD (4 + i) = y4
  generalize Int32.toBitVec (-34953) = m1
  generalize Int32.toBitVec (-4370) = m2
  generalize Int32.toBitVec 65535 = m3
  generalize m1.getLsbD (i - 1) = m1
  generalize m2.getLsbD (1 + i) = m2
  generalize m3.getLsbD i = m3
  generalize decide (i < 1) = d1
  generalize decide (i < 4) = d4
  generalize decide (i < 32) = d32
  simp only [Bool.and_or_distrib_left, Bool.and_or_distrib_right]
  ac_rfl
theorem orF_bt {r : Nat → Bool} {f : Nat → Int32} : ∀ (n k : Nat) (a : Int32), bt (fld (fun k s => if r k = true then s ||| f k else s) k n a) j = true ↔ bt a j = true ∨ ∃ i, k ≤ i ∧ i < k + n ∧ r i = true ∧ bt (f i) j = true := by
  intro n
  induction n with
  | zero =>
    intro k a
    constructor
    · exact Or.inl
    · rintro (h | ⟨i, h1, h2, _⟩)
      · exact h
      · omega
  | succ n ih =>
    intro k a
    rw [fld, ih]
    by_cases q : r k = true
    · rw [if_pos q, bt_or2, Bool.or_eq_true]
      constructor
      · rintro ((h | h) | ⟨i, h1, h2, h3, h4⟩)
        · exact Or.inl h
        · exact Or.inr ⟨k, Nat.le_refl _, by omega, q, h⟩
        · exact Or.inr ⟨i, by omega, by omega, h3, h4⟩
      · rintro (h | ⟨i, h1, h2, h3, h4⟩)
        · exact Or.inl (Or.inl h)
        · by_cases e : i = k
          · subst e
            exact Or.inl (Or.inr h4)
          · exact Or.inr ⟨i, by omega, by omega, h3, h4⟩
    · rw [if_neg q]
      constructor
      · rintro (h | ⟨i, h1, h2, h3, h4⟩)
        · exact Or.inl h
        · exact Or.inr ⟨i, by omega, by omega, h3, h4⟩
      · rintro (h | ⟨i, h1, h2, h3, h4⟩)
        · exact Or.inl h
        · refine Or.inr ⟨i, ?_, by omega, h3, h4⟩
          by_cases e : i = k
          · subst e
            exact absurd h3 q
          · omega
theorem nearE_F {r : Nat → Bool} {f : Nat → Int32} : ∀ (n k : Nat) (a : Int32), nearE (fld (fun k s => if r k = true then s ||| f k else s) k n a) = fld (fun k s => if r k = true then s ||| nearE (f k) else s) k n (nearE a) := by
  intro n
  induction n with
  | zero => intro k a; rfl
  | succ n ih =>
    intro k a
    rw [fld, fld, ih]
    congr 1
    by_cases q : r k = true
    · rw [if_pos q, if_pos q, nearE_or]
    · rw [if_neg q, if_neg q]
/-- a set of CELLS -/
def m16 (x : Int32) : Prop := ∀ j, 16 ≤ j → j < 32 → bt x j = false
theorem mk_bt (h : m16 x) : x = fld (fun k s => if bt x k = true then s ||| 1 <<< (nI k &&& 31) else s) 0 16 0 := by
  refine bt_ext (fun j hj => ?_)
  rw [Bool.eq_iff_iff, orF_bt, bt_z]
  constructor
  · intro e
    by_cases q : j < 16
    · exact Or.inr ⟨j, by omega, by omega, e, by rw [bit_all j q j hj]; simp⟩
    · rw [h j (by omega) hj] at e
      cases e
  · rintro (e | ⟨i, h1, h2, h3, h4⟩)
    · cases e
    · rw [bit_all i (by omega) j hj] at h4
      have := of_decide_eq_true h4
      subst this
      exact h3
theorem near_bt (h : m16 x) (hj : j < 32) : bt (nearE x) j = true ↔ j < 16 ∧ ∃ i, i < 16 ∧ bt x i = true ∧ nrB (nI i) (nI j) = true := by
  have e : bt (nearE x) j = bt (nearE (fld (fun k s => if bt x k = true then s ||| 1 <<< (nI k &&& 31) else s) 0 16 0)) j := by rw [← mk_bt h]
  rw [e, nearE_F, orF_bt, nearE_0, bt_z]
  constructor
  · rintro (e | ⟨i, h1, h2, h3, h4⟩)
    · cases e
    · rw [nbt_all i (by omega) j hj, Bool.and_eq_true, decide_eq_true_eq] at h4
      exact ⟨h4.1, i, by omega, h3, h4.2⟩
  · rintro ⟨h0, i, h1, h2, h3⟩
    refine Or.inr ⟨i, by omega, by omega, h2, ?_⟩
    rw [nbt_all i h1 j hj, Bool.and_eq_true, decide_eq_true_eq]
    exact ⟨h0, h3⟩
/-- one more child, borne there -/
def opI (I : Nat → Nat → Int32) (k : Nat) : Bool := beI (thT (rowT I 3 4 5 k)) (ldI (I 6) k + 2) (bI I)
def boM (I : Nat → Nat → Int32) : Int32 := fld (fun k s => if opI I k = true then s ||| 1 <<< (nI k &&& 31) else s) 0 16 0
theorem boM_bt (hj : j < 32) : bt (boM I) j = true ↔ j < 16 ∧ opI I j = true := by
  unfold boM
  rw [orF_bt, bt_z]
  constructor
  · rintro (e | ⟨i, h1, h2, h3, h4⟩)
    · cases e
    · rw [bit_all i (by omega) j hj] at h4
      have := of_decide_eq_true h4
      subst this
      exact ⟨by omega, h3⟩
  · rintro ⟨h1, h2⟩
    exact Or.inr ⟨j, by omega, by omega, h2, by rw [bit_all j h1 j hj]; simp⟩
theorem K_B_bearingOneMore (hw : wok I (hwI I)) : pm_cl X (d + 7) 48 [.ref 0] (pm_S0 ++ g, I, J) P = P (some (.int (boM I)), (pm_S0 ++ g, I, J)) := by
  refine K_of (k := 6) (fun d' => ?_)
  have L := fun (Q : pm_O → Prop) => pm_lpR (fun k (s : Int32 × Option Value) => pm_V X (d' + 6) 48 4 [some (.ref 0), some (.int s.1), some (.int (nI k)), s.2] [] (pm_S0 ++ g, I, J) Q) (fun k s => s.1 = fld (fun k s => if opI I k = true then s ||| 1 <<< (nI k &&& 31) else s) 0 k 0) 16 (by
    intro k s hk hs
    have h1 : ((16 : Int32) ≤ nI k) = False := by
      rw [show (16 : Int32) = nI 16 from rfl, nI_le_l (by omega) (by omega)]
      exact eq_false (by omega)
    have kt := fun (d : Nat) (P : pm_O → Prop) => K_I_thick (X := X) (d := d) (P := P) (S := pm_S0 ++ g) (I := I) (J := J) ice_now hk
    rw [show I 3 k + I 4 k / 2 = thT (rowT I 3 4 5 k) from rfl] at kt
    have kb := fun (d : Nat) (P : pm_O → Prop) => K_B_bears (X := X) (d := d) (P := P) (g := g) (J := J) (t := thT (rowT I 3 4 5 k)) (l := ldI (I 6) k + 2) hw
    rw [show beI (thT (rowT I 3 4 5 k)) (ldI (I 6) k + 2) (bI I) = opI I k from rfl] at kb
    refine ⟨(if opI I k = true then s.1 ||| 1 <<< (nI k &&& 31) else s.1, some (.int (ldI (I 6) k + 2))), ?_, ?_⟩
    · rw [fld_s, ← hs, Nat.zero_add]
    generalize opI I k = z at kb ⊢
    show pm_V X (d' + 6) 48 4 [some (.ref 0), some (.int s.1), some (.int (nI k)), s.2] [] (pm_S0 ++ g, I, J) Q = _
    rw [e_B_bearingOneMore_4]
    simp only [e_B_bearingOneMore_0, e_B_bearingOneMore_1, e_B_bearingOneMore_2, e_B_bearingOneMore_3, e_B_bearingOneMore_5, e_B_bearingOneMore_7, e_B_bearingOneMore_10, e_B_bearingOneMore_11, e_B_bearingOneMore_14, e_B_bearingOneMore_17, e_B_bearingOneMore_18, e_B_bearingOneMore_21, e_B_bearingOneMore_22, e_B_bearingOneMore_23, e_B_bearingOneMore_24, e_B_bearingOneMore_25, e_B_bearingOneMore_26, e_B_bearingOneMore_29, e_B_bearingOneMore_32, e_B_bearingOneMore_33, e_B_bearingOneMore_36, e_B_bearingOneMore_37, e_B_bearingOneMore_40, e_B_bearingOneMore_43, e_B_bearingOneMore_44, e_B_bearingOneMore_45, e_B_bearingOneMore_46, e_B_bearingOneMore_47, e_B_bearingOneMore_48, e_B_bearingOneMore_49, e_B_bearingOneMore_52, e_B_bearingOneMore_55, e_B_bearingOneMore_56, h1, sh_o_0, sh_o_2, sh_r_0_0, sh_r_1_0, sh_r_1_1, K_B_loadOf (S := pm_S0 ++ g) (a := 6) rfl hk, kt, kb, nI_1, pm_opt_some, pm_opt_none, pm_opt_if, Bool.false_eq_true, Bool.not_false, Bool.not_true, if_false, if_true, true_and, and_true, true_or, or_true, not_true_eq_false, not_false_eq_true, q10, q00, q01, q11, pk_v, pk_i, pk_l, pk_r]
    cases z with
    | true => simp only [pm_opt_some, pm_opt_none, pm_opt_if, Bool.false_eq_true, Bool.not_false, Bool.not_true, if_false, if_true, true_and, and_true, true_or, or_true, not_true_eq_false, not_false_eq_true, q10, q00, q01, q11, pk_v, pk_i, pk_l, pk_r]
    | false => simp only [pm_opt_some, pm_opt_none, pm_opt_if, Bool.false_eq_true, Bool.not_false, Bool.not_true, if_false, if_true, true_and, and_true, true_or, or_true, not_true_eq_false, not_false_eq_true, q10, q00, q01, q11, pk_v, pk_i, pk_l, pk_r]) 16 0 (0, none) (by omega) rfl
  have h16 : ((16 : Int32) ≤ nI 16) = True := by decide
  simp only [nI_0] at L
  obtain ⟨s', hs', L'⟩ := L (fun q => q = (some (.int (boM I)), (pm_S0 ++ g, I, J)))
  show pm_V X (d' + 6) 48 0 [some (.ref 0), none, none, none] [] (pm_S0 ++ g, I, J) _
  simp only [e_B_bearingOneMore_0, e_B_bearingOneMore_1, e_B_bearingOneMore_2, e_B_bearingOneMore_3, e_B_bearingOneMore_5, e_B_bearingOneMore_7, e_B_bearingOneMore_10, e_B_bearingOneMore_11, e_B_bearingOneMore_14, e_B_bearingOneMore_17, e_B_bearingOneMore_18, e_B_bearingOneMore_21, e_B_bearingOneMore_22, e_B_bearingOneMore_23, e_B_bearingOneMore_24, e_B_bearingOneMore_25, e_B_bearingOneMore_26, e_B_bearingOneMore_29, e_B_bearingOneMore_32, e_B_bearingOneMore_33, e_B_bearingOneMore_36, e_B_bearingOneMore_37, e_B_bearingOneMore_40, e_B_bearingOneMore_43, e_B_bearingOneMore_44, e_B_bearingOneMore_45, e_B_bearingOneMore_46, e_B_bearingOneMore_47, e_B_bearingOneMore_48, e_B_bearingOneMore_49, e_B_bearingOneMore_52, e_B_bearingOneMore_55, e_B_bearingOneMore_56]
  rw [L', e_B_bearingOneMore_4]
  simp only [e_B_bearingOneMore_0, e_B_bearingOneMore_1, e_B_bearingOneMore_2, e_B_bearingOneMore_3, e_B_bearingOneMore_5, e_B_bearingOneMore_7, e_B_bearingOneMore_10, e_B_bearingOneMore_11, e_B_bearingOneMore_14, e_B_bearingOneMore_17, e_B_bearingOneMore_18, e_B_bearingOneMore_21, e_B_bearingOneMore_22, e_B_bearingOneMore_23, e_B_bearingOneMore_24, e_B_bearingOneMore_25, e_B_bearingOneMore_26, e_B_bearingOneMore_29, e_B_bearingOneMore_32, e_B_bearingOneMore_33, e_B_bearingOneMore_36, e_B_bearingOneMore_37, e_B_bearingOneMore_40, e_B_bearingOneMore_43, e_B_bearingOneMore_44, e_B_bearingOneMore_45, e_B_bearingOneMore_46, e_B_bearingOneMore_47, e_B_bearingOneMore_48, e_B_bearingOneMore_49, e_B_bearingOneMore_52, e_B_bearingOneMore_55, e_B_bearingOneMore_56, h16, hs', pm_opt_some, pm_opt_none, pm_opt_if, Bool.false_eq_true, Bool.not_false, Bool.not_true, if_false, if_true, true_and, and_true, true_or, or_true, not_true_eq_false, not_false_eq_true, q10, q00, q01, q11, pk_v, pk_i, pk_l, pk_r]
  rfl
/-- the class's search -/
def rcV (op go : Int32) : Nat → Nat → Int32 → Int32
  | 0, _, _ => -5
  | n + 1, k, x => if x &&& go = 0 then rcV op go n (k + 1) (x ||| (op &&& nearE x)) else nI k
theorem B_rc_loop {op go bi : Int32} : ∀ (n k : Nat) (x : Int32), k + n = 17 → ∀ (d : Nat) (Q : pm_O → Prop), pm_V X (d + 2) 14 46 [some (.ref 0), some (.int a), some (.int bi), some (.int op), some (.int go), some (.int x), some (.int (nI k))] [] (pm_S0 ++ g, I, J) Q = Q (some (.int (rcV op go n k x)), (pm_S0 ++ g, I, J)) := by
  intro n
  induction n with
  | zero =>
    intro k x hk d Q
    obtain rfl : k = 17 := by omega
    have h1 : ((16 : Int32) < nI 17) = True := by decide
    rw [e_B_reach_46]
    simp only [e_B_reach_0, e_B_reach_1, e_B_reach_4, e_B_reach_7, e_B_reach_8, e_B_reach_9, e_B_reach_10, e_B_reach_11, e_B_reach_12, e_B_reach_13, e_B_reach_14, e_B_reach_16, e_B_reach_17, e_B_reach_20, e_B_reach_21, e_B_reach_22, e_B_reach_23, e_B_reach_26, e_B_reach_27, e_B_reach_28, e_B_reach_29, e_B_reach_30, e_B_reach_31, e_B_reach_32, e_B_reach_35, e_B_reach_37, e_B_reach_38, e_B_reach_40, e_B_reach_41, e_B_reach_43, e_B_reach_44, e_B_reach_48, e_B_reach_50, e_B_reach_53, e_B_reach_55, e_B_reach_57, e_B_reach_58, e_B_reach_61, e_B_reach_63, e_B_reach_64, e_B_reach_66, e_B_reach_67, e_B_reach_69, e_B_reach_72, e_B_reach_73, e_B_reach_74, e_B_reach_76, e_B_reach_79, e_B_reach_82, e_B_reach_84, h1, rcV, pm_opt_some, pm_opt_none, pm_opt_if, Bool.false_eq_true, Bool.not_false, Bool.not_true, if_false, if_true, true_and, and_true, true_or, or_true, not_true_eq_false, not_false_eq_true, q10, q00, q01, q11, pk_v, pk_i, pk_l, pk_r]
  | succ n ih =>
    intro k x hk d Q
    have h1 : ((16 : Int32) < nI k) = False := by
      rw [show (16 : Int32) = nI 16 from rfl]
      exact eq_false (fun z => by rw [nI_ltI (by omega) (by omega)] at z; omega)
    rw [rcV, e_B_reach_46]
    by_cases q : x &&& go = 0
    · simp only [e_B_reach_0, e_B_reach_1, e_B_reach_4, e_B_reach_7, e_B_reach_8, e_B_reach_9, e_B_reach_10, e_B_reach_11, e_B_reach_12, e_B_reach_13, e_B_reach_14, e_B_reach_16, e_B_reach_17, e_B_reach_20, e_B_reach_21, e_B_reach_22, e_B_reach_23, e_B_reach_26, e_B_reach_27, e_B_reach_28, e_B_reach_29, e_B_reach_30, e_B_reach_31, e_B_reach_32, e_B_reach_35, e_B_reach_37, e_B_reach_38, e_B_reach_40, e_B_reach_41, e_B_reach_43, e_B_reach_44, e_B_reach_48, e_B_reach_50, e_B_reach_53, e_B_reach_55, e_B_reach_57, e_B_reach_58, e_B_reach_61, e_B_reach_63, e_B_reach_64, e_B_reach_66, e_B_reach_67, e_B_reach_69, e_B_reach_72, e_B_reach_73, e_B_reach_74, e_B_reach_76, e_B_reach_79, e_B_reach_82, e_B_reach_84, h1, q, K_B_nearOf, nI_1, pm_opt_some, pm_opt_none, pm_opt_if, Bool.false_eq_true, Bool.not_false, Bool.not_true, if_false, if_true, true_and, and_true, true_or, or_true, not_true_eq_false, not_false_eq_true, q10, q00, q01, q11, pk_v, pk_i, pk_l, pk_r]
      rw [ih (k + 1) _ (by omega)]
    · simp only [e_B_reach_0, e_B_reach_1, e_B_reach_4, e_B_reach_7, e_B_reach_8, e_B_reach_9, e_B_reach_10, e_B_reach_11, e_B_reach_12, e_B_reach_13, e_B_reach_14, e_B_reach_16, e_B_reach_17, e_B_reach_20, e_B_reach_21, e_B_reach_22, e_B_reach_23, e_B_reach_26, e_B_reach_27, e_B_reach_28, e_B_reach_29, e_B_reach_30, e_B_reach_31, e_B_reach_32, e_B_reach_35, e_B_reach_37, e_B_reach_38, e_B_reach_40, e_B_reach_41, e_B_reach_43, e_B_reach_44, e_B_reach_48, e_B_reach_50, e_B_reach_53, e_B_reach_55, e_B_reach_57, e_B_reach_58, e_B_reach_61, e_B_reach_63, e_B_reach_64, e_B_reach_66, e_B_reach_67, e_B_reach_69, e_B_reach_72, e_B_reach_73, e_B_reach_74, e_B_reach_76, e_B_reach_79, e_B_reach_82, e_B_reach_84, h1, q, pm_opt_some, pm_opt_none, pm_opt_if, Bool.false_eq_true, Bool.not_false, Bool.not_true, if_false, if_true, true_and, and_true, true_or, or_true, not_true_eq_false, not_false_eq_true, q10, q00, q01, q11, pk_v, pk_i, pk_l, pk_r]
end P56
