/-! the parser: the reference's tests and words -/
def encl (l : List Int32) : List Int32 := l.map encM
section P78
variable {X : pm_X} {d : Nat} {P Q : pm_O → Prop} {g : List pm_S} {I I' : Nat → Nat → Int32} {J : Nat → Nat → Int64} {a i j n k p sg wt op s m v : Nat} {b c x y dg : Int32} {t : List Nat} {A S T : Nat → Int32}
theorem ltT_no (h : ltT c = -1) : ¬ c = 104 ∧ ¬ c = 100 ∧ ¬ c = 119 := by
  refine ⟨fun z => ?_, fun z => ?_, fun z => ?_⟩
  · rw [z] at h
    exact absurd h (by decide)
  · rw [z] at h
    exact absurd h (by decide)
  · rw [z] at h
    exact absurd h (by decide)
theorem rl_in (c : Int32) : (60 ≤ c ∧ c ≤ 62) = (0 ≤ rlT c) := by
  refine propext ⟨fun h => ?_, fun h => ?_⟩
  · obtain ⟨j, hj, rfl⟩ := in_of (M := 62) (m := 62) rfl ⟨Int32.le_trans (by decide) h.1, h.2⟩
    have h60 : 60 ≤ j := (nI_leI (a := 60) (by decide) (by omega)).mp h.1
    have : ∀ j, j ≤ 62 → 60 ≤ j → 0 ≤ rlT (nI j) := by decide +kernel
    exact this j hj h60
  · rcases rl_or c with z | ⟨k, hk, _, z⟩
    · rw [z] at h
      exact absurd h m1_np
    · rw [z]
      have : ∀ k, k < 3 → (60 ≤ nI ([60, 61, 62].getD k 0) ∧ nI ([60, 61, 62].getD k 0) ≤ 62) := by decide
      exact this k hk
theorem en_all : ∀ a, a < 3 → ∀ b, b < 3 → ∀ v, v < 100 → 1000 * nI a + 100 * (nI ([60, 61, 62].getD b 0) - 60) + nI v = encM (nI a * 300 + nI b * 100 + nI v) := by decide +kernel
theorem en_ts {c1 c2 : Int32} (h1 : 0 ≤ ltT c1) (h2 : 0 ≤ rlT c2) (hv : v < 100) : 1000 * ltT c1 + 100 * (c2 - 60) + nI v = encM (ltT c1 * 300 + rlT c2 * 100 + nI v) := by
  rcases lt_or c1 with z | ⟨k, hk, z, _⟩
  · rw [z] at h1
    exact absurd h1 m1_np
  · rcases rl_or c2 with y | ⟨l, hl, y, y2⟩
    · rw [y] at h2
      exact absurd h2 m1_np
    · have e := en_all k hk l hl v hv
      rw [← y2] at e
      rw [z, y]
      exact e
theorem M_t0 (h : RM I n) (hp : p ≤ n) : pm_V X (d + 3) 126 0 [some (.ref 82), none, none] [] (pm_S0 ++ g, MHp I p dg sg wt op A S T, J) Q = pm_V X (d + 3) 126 41 [some (.ref 82), some (.int (ltT (nxT (I 90) n p))), none] [] (pm_S0 ++ g, MHp I p dg sg wt op A S T, J) Q := by
  have kn := fun (d : Nat) (P : pm_O → Prop) => K_M_next (X := X) (d := d) (P := P) (g := g) (J := J) (dg := dg) (sg := sg) (wt := wt) (op := op) (A := A) (S := S) (T := T) h hp
  generalize nxT (I 90) n p = c at kn ⊢
  have e1 : ltT 104 = 0 := rfl
  have e2 : ltT 100 = 1 := rfl
  have e3 : ltT 119 = 2 := rfl
  have x1 : ((100 : Int32) = 104) = False := by decide
  have x2 : ((119 : Int32) = 104) = False := by decide
  have x3 : ((119 : Int32) = 100) = False := by decide
  rcases lt_or c with z | ⟨k, hk, z, zc⟩
  · obtain ⟨n1, n2, n3⟩ := ltT_no z
    rw [z]
    simp only [e_M_takesTest_0, e_M_takesTest_1, e_M_takesTest_4, e_M_takesTest_6, e_M_takesTest_10, e_M_takesTest_13, e_M_takesTest_14, e_M_takesTest_17, e_M_takesTest_19, e_M_takesTest_23, e_M_takesTest_26, e_M_takesTest_27, e_M_takesTest_30, e_M_takesTest_32, e_M_takesTest_36, e_M_takesTest_39, e_M_takesTest_40, e_M_takesTest_42, e_M_takesTest_45, e_M_takesTest_46, e_M_takesTest_47, e_M_takesTest_48, e_M_takesTest_49, e_M_takesTest_52, e_M_takesTest_53, e_M_takesTest_54, e_M_takesTest_57, e_M_takesTest_58, e_M_takesTest_61, e_M_takesTest_62, e_M_takesTest_63, e_M_takesTest_64, e_M_takesTest_66, e_M_takesTest_68, e_M_takesTest_71, e_M_takesTest_74, e_M_takesTest_75, e_M_takesTest_76, e_M_takesTest_77, e_M_takesTest_78, e_M_takesTest_81, e_M_takesTest_82, e_M_takesTest_83, e_M_takesTest_86, e_M_takesTest_87, e_M_takesTest_90, e_M_takesTest_93, e_M_takesTest_94, e_M_takesTest_95, e_M_takesTest_96, e_M_takesTest_99, e_M_takesTest_100, e_M_takesTest_101, e_M_takesTest_103, e_M_takesTest_104, e_M_takesTest_106, e_M_takesTest_107, e_M_takesTest_108, e_M_takesTest_109, e_M_takesTest_110, e_M_takesTest_113, e_M_takesTest_114, e_M_takesTest_117, e_M_takesTest_118, e_M_takesTest_121, e_M_takesTest_122, sh_o_82, kn, n1, n2, n3, pm_opt_some, pm_opt_none, pm_opt_if, Bool.false_eq_true, Bool.not_false, Bool.not_true, if_false, if_true, true_and, and_true, true_or, or_true, not_true_eq_false, not_false_eq_true, q10, q00, q01, q11, pk_v, pk_i, pk_l, pk_r]
  · match k, hk, zc with
    | 0, _, zc =>
      obtain rfl : c = 104 := zc
      simp only [e_M_takesTest_0, e_M_takesTest_1, e_M_takesTest_4, e_M_takesTest_6, e_M_takesTest_9, e_M_takesTest_10, e_M_takesTest_14, e_M_takesTest_17, e_M_takesTest_19, e_M_takesTest_22, e_M_takesTest_23, e_M_takesTest_26, e_M_takesTest_27, e_M_takesTest_30, e_M_takesTest_32, e_M_takesTest_35, e_M_takesTest_36, e_M_takesTest_39, e_M_takesTest_40, e_M_takesTest_42, e_M_takesTest_45, e_M_takesTest_46, e_M_takesTest_47, e_M_takesTest_48, e_M_takesTest_49, e_M_takesTest_52, e_M_takesTest_53, e_M_takesTest_54, e_M_takesTest_57, e_M_takesTest_58, e_M_takesTest_61, e_M_takesTest_62, e_M_takesTest_63, e_M_takesTest_64, e_M_takesTest_66, e_M_takesTest_68, e_M_takesTest_71, e_M_takesTest_74, e_M_takesTest_75, e_M_takesTest_76, e_M_takesTest_77, e_M_takesTest_78, e_M_takesTest_81, e_M_takesTest_82, e_M_takesTest_83, e_M_takesTest_86, e_M_takesTest_87, e_M_takesTest_90, e_M_takesTest_93, e_M_takesTest_94, e_M_takesTest_95, e_M_takesTest_96, e_M_takesTest_99, e_M_takesTest_100, e_M_takesTest_101, e_M_takesTest_103, e_M_takesTest_104, e_M_takesTest_106, e_M_takesTest_107, e_M_takesTest_108, e_M_takesTest_109, e_M_takesTest_110, e_M_takesTest_113, e_M_takesTest_114, e_M_takesTest_117, e_M_takesTest_118, e_M_takesTest_121, e_M_takesTest_122, sh_o_82, kn, e1, pm_opt_some, pm_opt_none, pm_opt_if, Bool.false_eq_true, Bool.not_false, Bool.not_true, if_false, if_true, true_and, and_true, true_or, or_true, not_true_eq_false, not_false_eq_true, q10, q00, q01, q11, pk_v, pk_i, pk_l, pk_r]
    | 1, _, zc =>
      obtain rfl : c = 100 := zc
      simp only [e_M_takesTest_0, e_M_takesTest_1, e_M_takesTest_4, e_M_takesTest_6, e_M_takesTest_10, e_M_takesTest_13, e_M_takesTest_14, e_M_takesTest_17, e_M_takesTest_19, e_M_takesTest_22, e_M_takesTest_23, e_M_takesTest_27, e_M_takesTest_30, e_M_takesTest_32, e_M_takesTest_35, e_M_takesTest_36, e_M_takesTest_39, e_M_takesTest_40, e_M_takesTest_42, e_M_takesTest_45, e_M_takesTest_46, e_M_takesTest_47, e_M_takesTest_48, e_M_takesTest_49, e_M_takesTest_52, e_M_takesTest_53, e_M_takesTest_54, e_M_takesTest_57, e_M_takesTest_58, e_M_takesTest_61, e_M_takesTest_62, e_M_takesTest_63, e_M_takesTest_64, e_M_takesTest_66, e_M_takesTest_68, e_M_takesTest_71, e_M_takesTest_74, e_M_takesTest_75, e_M_takesTest_76, e_M_takesTest_77, e_M_takesTest_78, e_M_takesTest_81, e_M_takesTest_82, e_M_takesTest_83, e_M_takesTest_86, e_M_takesTest_87, e_M_takesTest_90, e_M_takesTest_93, e_M_takesTest_94, e_M_takesTest_95, e_M_takesTest_96, e_M_takesTest_99, e_M_takesTest_100, e_M_takesTest_101, e_M_takesTest_103, e_M_takesTest_104, e_M_takesTest_106, e_M_takesTest_107, e_M_takesTest_108, e_M_takesTest_109, e_M_takesTest_110, e_M_takesTest_113, e_M_takesTest_114, e_M_takesTest_117, e_M_takesTest_118, e_M_takesTest_121, e_M_takesTest_122, sh_o_82, kn, e2, x1, pm_opt_some, pm_opt_none, pm_opt_if, Bool.false_eq_true, Bool.not_false, Bool.not_true, if_false, if_true, true_and, and_true, true_or, or_true, not_true_eq_false, not_false_eq_true, q10, q00, q01, q11, pk_v, pk_i, pk_l, pk_r]
    | 2, _, zc =>
      obtain rfl : c = 119 := zc
      simp only [e_M_takesTest_0, e_M_takesTest_1, e_M_takesTest_4, e_M_takesTest_6, e_M_takesTest_10, e_M_takesTest_13, e_M_takesTest_14, e_M_takesTest_17, e_M_takesTest_19, e_M_takesTest_23, e_M_takesTest_26, e_M_takesTest_27, e_M_takesTest_30, e_M_takesTest_32, e_M_takesTest_35, e_M_takesTest_36, e_M_takesTest_40, e_M_takesTest_42, e_M_takesTest_45, e_M_takesTest_46, e_M_takesTest_47, e_M_takesTest_48, e_M_takesTest_49, e_M_takesTest_52, e_M_takesTest_53, e_M_takesTest_54, e_M_takesTest_57, e_M_takesTest_58, e_M_takesTest_61, e_M_takesTest_62, e_M_takesTest_63, e_M_takesTest_64, e_M_takesTest_66, e_M_takesTest_68, e_M_takesTest_71, e_M_takesTest_74, e_M_takesTest_75, e_M_takesTest_76, e_M_takesTest_77, e_M_takesTest_78, e_M_takesTest_81, e_M_takesTest_82, e_M_takesTest_83, e_M_takesTest_86, e_M_takesTest_87, e_M_takesTest_90, e_M_takesTest_93, e_M_takesTest_94, e_M_takesTest_95, e_M_takesTest_96, e_M_takesTest_99, e_M_takesTest_100, e_M_takesTest_101, e_M_takesTest_103, e_M_takesTest_104, e_M_takesTest_106, e_M_takesTest_107, e_M_takesTest_108, e_M_takesTest_109, e_M_takesTest_110, e_M_takesTest_113, e_M_takesTest_114, e_M_takesTest_117, e_M_takesTest_118, e_M_takesTest_121, e_M_takesTest_122, sh_o_82, kn, e3, x2, x3, pm_opt_some, pm_opt_none, pm_opt_if, Bool.false_eq_true, Bool.not_false, Bool.not_true, if_false, if_true, true_and, and_true, true_or, or_true, not_true_eq_false, not_false_eq_true, q10, q00, q01, q11, pk_v, pk_i, pk_l, pk_r]
/-- a test: what it leaves -/
theorem K_M_testT {j : Nat} (h : RM I n) (hp : p ≤ n) (hr : (tsP (I 90) n p).1 = true) (h0 : ∀ b, a = b + 1 → ¬ A b = 33) (hA : ∀ i, i < j → A (a + i) = 33) (hj : j ≤ op) (ho : op ≤ 100) (hs : sg + 1 + j ≤ 500) (ha : a + j ≤ 101) : ∃ dg', ∀ (d : Nat) (P : pm_O → Prop), pm_cl X (d + 4) 126 [.ref 82] (pm_S0 ++ g, MHp I p dg sg (a + j) op A S T, J) P = P (some (.int 1), (pm_S0 ++ g, MHp I (tsP (I 90) n p).2.1 dg' (sg + 1 + j) a (op - j) A (apL S sg (encl (tsP (I 90) n p).2.2 ++ emS A a j)) T, J)) := by
  have q : 0 ≤ ltT (nxT (I 90) n p) ∧ 0 ≤ rlT (nxT (I 90) n (p + 1)) ∧ 0 ≤ dgI (nxT (I 90) n (p + 2)) := by
    unfold tsP at hr
    by_cases q1 : 0 ≤ ltT (nxT (I 90) n p)
    · by_cases q2 : 0 ≤ rlT (nxT (I 90) n (p + 1))
      · by_cases q3 : 0 ≤ dgI (nxT (I 90) n (p + 2))
        · exact ⟨q1, q2, q3⟩
        · rw [if_pos q1, if_pos q2, if_neg q3] at hr
          cases hr
      · rw [if_pos q1, if_neg q2] at hr
        cases hr
    · rw [if_neg q1] at hr
      cases hr
  obtain ⟨q1, q2, q3⟩ := q
  have p1 : p < n := nx_lt (T := I 90) (fun z => by rw [z, lt_m1] at q1; exact m1_np q1)
  have p2 : p + 1 < n := nx_lt (T := I 90) (fun z => by rw [z, rl_m1] at q2; exact m1_np q2)
  have bd := nu_bd q3
  have en := en_ts q1 q2 bd.1
  have er : tsP (I 90) n p = (true, nuP (I 90) n (p + 2), [ltT (nxT (I 90) n p) * 300 + rlT (nxT (I 90) n (p + 1)) * 100 + nI (nuV (I 90) n (p + 2))]) := by
    unfold tsP
    rw [if_pos q1, if_pos q2, if_pos q3]
  rw [er]
  refine ⟨nI (nuV (I 90) n (p + 2)), fun d P => propext (pm_cl_of (k := 3) (by omega) (fun d' => ?_) P)⟩
  have kn := fun (d : Nat) (P : pm_O → Prop) (dg : Int32) => K_M_next (X := X) (d := d) (P := P) (g := g) (J := J) (dg := dg) (sg := sg) (wt := a + j) (op := op) (A := A) (S := S) (T := T) h (show p + 1 ≤ n by omega)
  have kN := fun (d : Nat) (P : pm_O → Prop) (dg : Int32) => K_M_takesNumber (X := X) (d := d) (P := P) (g := g) (J := J) (dg := dg) (sg := sg) (wt := a + j) (op := op) (A := A) (S := S) (T := T) h (show p + 2 ≤ n by omega)
  have kp := fun (d : Nat) (P : pm_O → Prop) (p : Nat) (dg x : Int32) => K_M_put (X := X) (d := d) (P := P) (g := g) (I := I) (J := J) (p := p) (dg := dg) (wt := a + j) (op := op) (A := A) (S := S) (T := T) (x := x) (show sg < 500 by omega)
  have kw := fun (d : Nat) (P : pm_O → Prop) (p : Nat) (dg : Int32) (S : Nat → Int32) => K_M_whole (X := X) (d := d) (P := P) (g := g) (I := I) (J := J) (p := p) (dg := dg) (sg := sg + 1) (S := S) (T := T) h0 hA hj ho hs ha
  show pm_V X (d' + 3) 126 0 [some (.ref 82), none, none] [] (pm_S0 ++ g, MHp I p dg sg (a + j) op A S T, J) _
  rw [M_t0 h hp]
  simp only [e_M_takesTest_41, e_M_takesTest_42, e_M_takesTest_47, e_M_takesTest_48, e_M_takesTest_49, e_M_takesTest_52, e_M_takesTest_53, e_M_takesTest_54, e_M_takesTest_57, e_M_takesTest_58, e_M_takesTest_61, e_M_takesTest_62, e_M_takesTest_63, e_M_takesTest_64, e_M_takesTest_66, e_M_takesTest_68, e_M_takesTest_71, e_M_takesTest_76, e_M_takesTest_77, e_M_takesTest_78, e_M_takesTest_81, e_M_takesTest_82, e_M_takesTest_83, e_M_takesTest_86, e_M_takesTest_87, e_M_takesTest_90, e_M_takesTest_95, e_M_takesTest_96, e_M_takesTest_99, e_M_takesTest_100, e_M_takesTest_101, e_M_takesTest_103, e_M_takesTest_104, e_M_takesTest_106, e_M_takesTest_107, e_M_takesTest_108, e_M_takesTest_109, e_M_takesTest_110, e_M_takesTest_113, e_M_takesTest_114, e_M_takesTest_117, e_M_takesTest_118, e_M_takesTest_121, e_M_takesTest_122, sh_o_82, q1, MH_12, MH_13, nI_1, MH_w12, kn, K_M_in, rl_in, q2, kN, q3, en, kp, kw, pm_opt_some, pm_opt_none, pm_opt_if, Bool.false_eq_true, Bool.not_false, Bool.not_true, if_false, if_true, true_and, and_true, true_or, or_true, not_true_eq_false, not_false_eq_true, q10, q00, q01, q11, pk_v, pk_i, pk_l, pk_r]
  rfl
theorem K_M_testF (h : RM I n) (hp : p ≤ n) (hr : (tsP (I 90) n p).1 = false) : pm_cl X (d + 4) 126 [.ref 82] (pm_S0 ++ g, MHp I p dg sg wt op A S T, J) P = P (some (.int 0), (pm_S0 ++ g, MHp I (tsP (I 90) n p).2.1 dg sg wt op A S T, J)) := by
  refine K_of (k := 3) (fun d' => ?_)
  show pm_V X (d' + 3) 126 0 [some (.ref 82), none, none] [] (pm_S0 ++ g, MHp I p dg sg wt op A S T, J) _
  rw [M_t0 h hp]
  unfold tsP at hr ⊢
  by_cases q1 : 0 ≤ ltT (nxT (I 90) n p)
  · have p1 : p < n := nx_lt (T := I 90) (fun z => by rw [z, lt_m1] at q1; exact m1_np q1)
    rw [if_pos q1] at hr ⊢
    have kn := fun (d : Nat) (P : pm_O → Prop) (dg : Int32) => K_M_next (X := X) (d := d) (P := P) (g := g) (J := J) (dg := dg) (sg := sg) (wt := wt) (op := op) (A := A) (S := S) (T := T) h (show p + 1 ≤ n by omega)
    by_cases q2 : 0 ≤ rlT (nxT (I 90) n (p + 1))
    · have p2 : p + 1 < n := nx_lt (T := I 90) (fun z => by rw [z, rl_m1] at q2; exact m1_np q2)
      rw [if_pos q2] at hr ⊢
      have kN := fun (d : Nat) (P : pm_O → Prop) (dg : Int32) => K_M_takesNumber (X := X) (d := d) (P := P) (g := g) (J := J) (dg := dg) (sg := sg) (wt := wt) (op := op) (A := A) (S := S) (T := T) h (show p + 2 ≤ n by omega)
      by_cases q3 : 0 ≤ dgI (nxT (I 90) n (p + 2))
      · rw [if_pos q3] at hr
        cases hr
      · rw [if_neg q3]
        simp only [e_M_takesTest_1, e_M_takesTest_4, e_M_takesTest_6, e_M_takesTest_9, e_M_takesTest_10, e_M_takesTest_13, e_M_takesTest_14, e_M_takesTest_17, e_M_takesTest_19, e_M_takesTest_22, e_M_takesTest_23, e_M_takesTest_26, e_M_takesTest_27, e_M_takesTest_30, e_M_takesTest_32, e_M_takesTest_35, e_M_takesTest_36, e_M_takesTest_39, e_M_takesTest_40, e_M_takesTest_41, e_M_takesTest_42, e_M_takesTest_46, e_M_takesTest_47, e_M_takesTest_48, e_M_takesTest_49, e_M_takesTest_52, e_M_takesTest_53, e_M_takesTest_54, e_M_takesTest_57, e_M_takesTest_58, e_M_takesTest_61, e_M_takesTest_62, e_M_takesTest_63, e_M_takesTest_64, e_M_takesTest_66, e_M_takesTest_68, e_M_takesTest_71, e_M_takesTest_75, e_M_takesTest_76, e_M_takesTest_77, e_M_takesTest_78, e_M_takesTest_81, e_M_takesTest_82, e_M_takesTest_83, e_M_takesTest_86, e_M_takesTest_87, e_M_takesTest_90, e_M_takesTest_93, e_M_takesTest_94, e_M_takesTest_96, e_M_takesTest_99, e_M_takesTest_100, e_M_takesTest_101, e_M_takesTest_103, e_M_takesTest_104, e_M_takesTest_106, e_M_takesTest_107, e_M_takesTest_108, e_M_takesTest_109, e_M_takesTest_110, e_M_takesTest_113, e_M_takesTest_114, e_M_takesTest_117, e_M_takesTest_118, e_M_takesTest_121, e_M_takesTest_122, sh_o_82, q1, MH_12, nI_1, MH_w12, kn, K_M_in, rl_in, q2, kN, q3, pm_opt_some, pm_opt_none, pm_opt_if, Bool.false_eq_true, Bool.not_false, Bool.not_true, if_false, if_true, true_and, and_true, true_or, or_true, not_true_eq_false, not_false_eq_true, q10, q00, q01, q11, pk_v, pk_i, pk_l, pk_r]
    · rw [if_neg q2]
      simp only [e_M_takesTest_1, e_M_takesTest_4, e_M_takesTest_6, e_M_takesTest_9, e_M_takesTest_10, e_M_takesTest_13, e_M_takesTest_14, e_M_takesTest_17, e_M_takesTest_19, e_M_takesTest_22, e_M_takesTest_23, e_M_takesTest_26, e_M_takesTest_27, e_M_takesTest_30, e_M_takesTest_32, e_M_takesTest_35, e_M_takesTest_36, e_M_takesTest_39, e_M_takesTest_40, e_M_takesTest_41, e_M_takesTest_42, e_M_takesTest_46, e_M_takesTest_47, e_M_takesTest_48, e_M_takesTest_49, e_M_takesTest_52, e_M_takesTest_53, e_M_takesTest_54, e_M_takesTest_57, e_M_takesTest_58, e_M_takesTest_61, e_M_takesTest_62, e_M_takesTest_63, e_M_takesTest_64, e_M_takesTest_66, e_M_takesTest_68, e_M_takesTest_71, e_M_takesTest_74, e_M_takesTest_75, e_M_takesTest_77, e_M_takesTest_78, e_M_takesTest_81, e_M_takesTest_82, e_M_takesTest_83, e_M_takesTest_86, e_M_takesTest_87, e_M_takesTest_90, e_M_takesTest_93, e_M_takesTest_94, e_M_takesTest_95, e_M_takesTest_96, e_M_takesTest_99, e_M_takesTest_100, e_M_takesTest_101, e_M_takesTest_103, e_M_takesTest_104, e_M_takesTest_106, e_M_takesTest_107, e_M_takesTest_108, e_M_takesTest_109, e_M_takesTest_110, e_M_takesTest_113, e_M_takesTest_114, e_M_takesTest_117, e_M_takesTest_118, e_M_takesTest_121, e_M_takesTest_122, sh_o_82, q1, MH_12, nI_1, MH_w12, kn, K_M_in, rl_in, q2, pm_opt_some, pm_opt_none, pm_opt_if, Bool.false_eq_true, Bool.not_false, Bool.not_true, if_false, if_true, true_and, and_true, true_or, or_true, not_true_eq_false, not_false_eq_true, q10, q00, q01, q11, pk_v, pk_i, pk_l, pk_r]
  · rw [if_neg q1]
    simp only [e_M_takesTest_1, e_M_takesTest_4, e_M_takesTest_6, e_M_takesTest_9, e_M_takesTest_10, e_M_takesTest_13, e_M_takesTest_14, e_M_takesTest_17, e_M_takesTest_19, e_M_takesTest_22, e_M_takesTest_23, e_M_takesTest_26, e_M_takesTest_27, e_M_takesTest_30, e_M_takesTest_32, e_M_takesTest_35, e_M_takesTest_36, e_M_takesTest_39, e_M_takesTest_40, e_M_takesTest_41, e_M_takesTest_42, e_M_takesTest_45, e_M_takesTest_46, e_M_takesTest_48, e_M_takesTest_49, e_M_takesTest_52, e_M_takesTest_53, e_M_takesTest_54, e_M_takesTest_57, e_M_takesTest_58, e_M_takesTest_61, e_M_takesTest_62, e_M_takesTest_63, e_M_takesTest_64, e_M_takesTest_66, e_M_takesTest_68, e_M_takesTest_71, e_M_takesTest_74, e_M_takesTest_75, e_M_takesTest_76, e_M_takesTest_77, e_M_takesTest_78, e_M_takesTest_81, e_M_takesTest_82, e_M_takesTest_83, e_M_takesTest_86, e_M_takesTest_87, e_M_takesTest_90, e_M_takesTest_93, e_M_takesTest_94, e_M_takesTest_95, e_M_takesTest_96, e_M_takesTest_99, e_M_takesTest_100, e_M_takesTest_101, e_M_takesTest_103, e_M_takesTest_104, e_M_takesTest_106, e_M_takesTest_107, e_M_takesTest_108, e_M_takesTest_109, e_M_takesTest_110, e_M_takesTest_113, e_M_takesTest_114, e_M_takesTest_117, e_M_takesTest_118, e_M_takesTest_121, e_M_takesTest_122, q1, pm_opt_some, pm_opt_none, pm_opt_if, Bool.false_eq_true, Bool.not_false, Bool.not_true, if_false, if_true, true_and, and_true, true_or, or_true, not_true_eq_false, not_false_eq_true, q10, q00, q01, q11, pk_v, pk_i, pk_l, pk_r]
/-- a word, packed -/
theorem M_wd_loop {cd : Int32} (h : RM I n) (hc : ∀ i, i < t.length → 96 + ((cd >>> ((5 * nI (t.length - 1 - i)) &&& 31)) &&& 31) = nI (t.getD i 0)) (ht : t.length ≤ 20) (h128 : ∀ x ∈ t, x < 128) : ∀ (k i p : Nat), i + k = t.length → p ≤ n → ∀ (d : Nat) (Q : pm_O → Prop), pm_V X (d + 2) 120 4 [some (.ref 82), some (.int cd), some (.int y), some (.int (nI k + (-1)))] [] (pm_S0 ++ g, MHp I p dg sg wt op A S T, J) Q = if (tkS (I 90) n (t.drop i) p).1 = true then (if nxT (I 90) n (tkS (I 90) n (t.drop i) p).2 = 32 then Q (some (.int 1), (pm_S0 ++ g, MHp I ((tkS (I 90) n (t.drop i) p).2 + 1) dg sg wt op A S T, J)) else Q (some (.int 0), (pm_S0 ++ g, MHp I (tkS (I 90) n (t.drop i) p).2 dg sg wt op A S T, J))) else Q (some (.int 0), (pm_S0 ++ g, MHp I (tkS (I 90) n (t.drop i) p).2 dg sg wt op A S T, J)) := by
  intro k
  induction k with
  | zero =>
    intro i p hi hp d Q
    obtain rfl : i = t.length := by omega
    have z : (nI 0 + (-1) < 0) = True := by decide
    rw [e_M_takesWord_4, List.drop_length]
    simp only [e_M_takesWord_0, e_M_takesWord_1, e_M_takesWord_2, e_M_takesWord_3, e_M_takesWord_5, e_M_takesWord_9, e_M_takesWord_11, e_M_takesWord_12, e_M_takesWord_13, e_M_takesWord_14, e_M_takesWord_15, e_M_takesWord_16, e_M_takesWord_18, e_M_takesWord_19, e_M_takesWord_20, e_M_takesWord_23, e_M_takesWord_26, e_M_takesWord_27, e_M_takesWord_28, e_M_takesWord_31, e_M_takesWord_34, e_M_takesWord_35, e_M_takesWord_37, e_M_takesWord_40, sh_o_82, z, K_M_takes h hp, tkS, pm_opt_some, pm_opt_none, pm_opt_if, Bool.false_eq_true, Bool.not_false, Bool.not_true, if_false, if_true, true_and, and_true, true_or, or_true, not_true_eq_false, not_false_eq_true, q10, q00, q01, q11, pk_v, pk_i, pk_l, pk_r]
    by_cases q : nxT (I 90) n p = 32
    · simp only [q, pm_opt_some, pm_opt_none, pm_opt_if, Bool.false_eq_true, Bool.not_false, Bool.not_true, if_false, if_true, true_and, and_true, true_or, or_true, not_true_eq_false, not_false_eq_true, q10, q00, q01, q11, pk_v, pk_i, pk_l, pk_r, e_M_takesWord_0, e_M_takesWord_1, e_M_takesWord_2, e_M_takesWord_3, e_M_takesWord_5, e_M_takesWord_9, e_M_takesWord_11, e_M_takesWord_12, e_M_takesWord_13, e_M_takesWord_14, e_M_takesWord_15, e_M_takesWord_16, e_M_takesWord_18, e_M_takesWord_19, e_M_takesWord_20, e_M_takesWord_23, e_M_takesWord_26, e_M_takesWord_27, e_M_takesWord_28, e_M_takesWord_31, e_M_takesWord_34, e_M_takesWord_35, e_M_takesWord_37, e_M_takesWord_40, sh_o_82]
    · simp only [q, pm_opt_some, pm_opt_none, pm_opt_if, Bool.false_eq_true, Bool.not_false, Bool.not_true, if_false, if_true, true_and, and_true, true_or, or_true, not_true_eq_false, not_false_eq_true, q10, q00, q01, q11, pk_v, pk_i, pk_l, pk_r, e_M_takesWord_0, e_M_takesWord_1, e_M_takesWord_2, e_M_takesWord_3, e_M_takesWord_5, e_M_takesWord_9, e_M_takesWord_11, e_M_takesWord_12, e_M_takesWord_13, e_M_takesWord_14, e_M_takesWord_15, e_M_takesWord_16, e_M_takesWord_18, e_M_takesWord_19, e_M_takesWord_20, e_M_takesWord_23, e_M_takesWord_26, e_M_takesWord_27, e_M_takesWord_28, e_M_takesWord_31, e_M_takesWord_34, e_M_takesWord_35, e_M_takesWord_37, e_M_takesWord_40, sh_o_82]
  | succ k ih =>
    intro i p hi hp d Q
    have hlt : i < t.length := by omega
    have z : (nI k < 0) = False := eq_false (nI_pos (by omega))
    have ed : t.drop i = t.getD i 0 :: t.drop (i + 1) := by
      rw [List.drop_eq_getElem_cons hlt, List.getD_eq_getElem?_getD, List.getElem?_eq_getElem hlt]
      rfl
    have hch := hc i hlt
    rw [show t.length - 1 - i = k by omega] at hch
    have h1 : t.getD i 0 < 128 := by
      rw [List.getD_eq_getElem?_getD, List.getElem?_eq_getElem hlt]
      exact h128 _ (List.getElem_mem hlt)
    rw [pk_m1, e_M_takesWord_4, ed, tkS]
    by_cases q : nxT (I 90) n p = nI (t.getD i 0)
    · have hpn : p < n := nx_lt (fun u => nI_nm1 h1 (q.symm.trans u))
      rw [if_pos q]
      simp only [e_M_takesWord_0, e_M_takesWord_1, e_M_takesWord_2, e_M_takesWord_3, e_M_takesWord_5, e_M_takesWord_8, e_M_takesWord_9, e_M_takesWord_11, e_M_takesWord_12, e_M_takesWord_13, e_M_takesWord_14, e_M_takesWord_15, e_M_takesWord_16, e_M_takesWord_18, e_M_takesWord_19, e_M_takesWord_20, e_M_takesWord_23, e_M_takesWord_26, e_M_takesWord_27, e_M_takesWord_28, e_M_takesWord_31, e_M_takesWord_35, e_M_takesWord_37, e_M_takesWord_40, sh_o_82, z, hch, K_M_takes h hp, q, pm_opt_some, pm_opt_none, pm_opt_if, Bool.false_eq_true, Bool.not_false, Bool.not_true, if_false, if_true, true_and, and_true, true_or, or_true, not_true_eq_false, not_false_eq_true, q10, q00, q01, q11, pk_v, pk_i, pk_l, pk_r]
      rw [ih (i + 1) (p + 1) (by omega) (by omega)]
    · simp only [e_M_takesWord_0, e_M_takesWord_1, e_M_takesWord_2, e_M_takesWord_3, e_M_takesWord_5, e_M_takesWord_8, e_M_takesWord_9, e_M_takesWord_11, e_M_takesWord_12, e_M_takesWord_13, e_M_takesWord_14, e_M_takesWord_15, e_M_takesWord_16, e_M_takesWord_18, e_M_takesWord_19, e_M_takesWord_20, e_M_takesWord_23, e_M_takesWord_26, e_M_takesWord_27, e_M_takesWord_31, e_M_takesWord_35, e_M_takesWord_37, e_M_takesWord_40, sh_o_82, z, hch, K_M_takes h hp, q, Bool.false_eq_true, pm_opt_some, pm_opt_none, pm_opt_if, Bool.false_eq_true, Bool.not_false, Bool.not_true, if_false, if_true, true_and, and_true, true_or, or_true, not_true_eq_false, not_false_eq_true, q10, q00, q01, q11, pk_v, pk_i, pk_l, pk_r]
theorem K_M_takesWord {cd : Int32} (h : RM I n) (hc : ∀ i, i < t.length → 96 + ((cd >>> ((5 * nI (t.length - 1 - i)) &&& 31)) &&& 31) = nI (t.getD i 0)) (ht : t.length ≤ 20) (h128 : ∀ x ∈ t, x < 128) (hp : p ≤ n) (hl : y = nI t.length) : pm_cl X (d + 3) 120 [.ref 82, .int cd, .int y] (pm_S0 ++ g, MHp I p dg sg wt op A S T, J) P = if (tkS (I 90) n t p).1 = true ∧ nxT (I 90) n (tkS (I 90) n t p).2 = 32 then P (some (.int 1), (pm_S0 ++ g, MHp I ((tkS (I 90) n t p).2 + 1) dg sg wt op A S T, J)) else P (some (.int 0), (pm_S0 ++ g, MHp I (tkS (I 90) n t p).2 dg sg wt op A S T, J)) := by
  subst hl
  have hs : nI t.length - 1 = nI t.length + (-1) := Int32.sub_eq_add_neg _ _
  have L := fun (d : Nat) (Q : pm_O → Prop) => M_wd_loop (X := X) (g := g) (J := J) (y := nI t.length) (dg := dg) (sg := sg) (wt := wt) (op := op) (A := A) (S := S) (T := T) h hc ht h128 t.length 0 p (by omega) hp d Q
  rw [List.drop_zero] at L
  refine K_if (k := 2) (fun hq d' => ?_) (fun hq d' => ?_)
  · show pm_V X (d' + 2) 120 0 [some (.ref 82), some (.int cd), some (.int (nI t.length)), none] [] (pm_S0 ++ g, MHp I p dg sg wt op A S T, J) _
    simp only [e_M_takesWord_0, e_M_takesWord_1, e_M_takesWord_2, e_M_takesWord_3]
    rw [hs, L, if_pos hq.1, if_pos hq.2]
  · show pm_V X (d' + 2) 120 0 [some (.ref 82), some (.int cd), some (.int (nI t.length)), none] [] (pm_S0 ++ g, MHp I p dg sg wt op A S T, J) _
    simp only [e_M_takesWord_0, e_M_takesWord_1, e_M_takesWord_2, e_M_takesWord_3]
    rw [hs, L]
    by_cases q1 : (tkS (I 90) n t p).1 = true
    · rw [if_pos q1, if_neg (fun z => hq ⟨q1, z⟩)]
    · rw [if_neg q1]
end P78
