/-! pairs of calls: reach -/
/-- the reference's next step from a CELL at a distance -/
def fsB (I : Nat → Nat → Int32) (cell c : Nat) (F : Nat → Int32) (i : Nat) : Bool := !decide (i = cell) && decide (F i = 0) && nrB (nI c) (nI i) && opI I i
def fsF (I : Nat → Nat → Int32) (cell D c k : Nat) (F : Nat → Int32) : Nat → Int32 := fun i => if i < k ∧ fsB I cell c F i = true then nI (D + 1) else F i
section P57
variable {X : pm_X} {d : Nat} {P Q : pm_O → Prop} {g : List pm_S} {S : List pm_S} {I I' I1 B C : Nat → Nat → Int32} {J J' : Nat → Nat → Int64} {j w m h f : Nat} {n c a b s l x y : Int32} {fi : Int32} {p : Nat → Int32} {T U : Nat → T3} {F : Nat → Int32} {cell D : Nat}
theorem MS_103 {k : Nat} {v : Int32} : pm_w (MS (pm_up B 103 F) T n p) 103 k v = MS (pm_up B 103 (upd F k v)) T n p := by
  have e : pm_w (MS (pm_up B 103 F) T n p) 103 k v = pm_up (MS (pm_up B 103 F) T n p) 103 (upd (MS (pm_up B 103 F) T n p 103) k v) := rfl
  rw [e, MS_rd (by decide), pu_eq, MS_up (by decide), pw98u]
theorem sfr_103 : sfr I (pm_up I 103 F) := sfr_of (L := [103]) (by decide) (pm_fr_up (by decide))
theorem K_M_op (hs : sfr I C) (hR : Rel C J) (hj : j < 16) : pm_cl X (d + 2) 147 [.ref 82, .int (nI j), .int (ldI (I 6) j + 2)] (pm_S0 ++ g, MS (pm_up C 103 F) (rowT I 3 4 5) n p, J) P = if opI I j = true then P (some (.int 1), (pm_S0 ++ g, MS (pm_up C 103 F) (rowT I 3 4 5) n p, J)) else P (some (.int 0), (pm_S0 ++ g, MS (pm_up C 103 F) (rowT I 3 4 5) n p, J)) := by
  have hs1 : sfr C (pm_up C 103 F) := sfr_103
  have := K_M_bears (X := X) (d := d) (P := P) (g := g) (J := J) (T := rowT I 3 4 5) (n := n) (p := p) (l := ldI (I 6) j + 2) (Rel_WXm (Rel_s hs1 hR)) hj
  rw [show wbI (pm_up C 103 F) (hwI (pm_up C 103 F)) = bI (pm_up C 103 F) from rfl, sfr_bI hs1, sfr_bI hs] at this
  exact this
/-- over the CELLS near one -/
theorem M_rc_o {c : Nat} (hs : sfr I C) (hR : Rel C J) (hl : ∀ j, j < 16 → C 102 j = ldI (I 6) j) (hcell : cell < 16) (hc : c < 16) : ∀ (d : Nat) (Q : pm_O → Prop), pm_V X (d + 4) 157 115 [some (.ref 82), some (.int (nI cell)), some (.int (nI D)), some (.int (nI c)), some (.int 0)] [] (pm_S0 ++ g, MS (pm_up C 103 F) (rowT I 3 4 5) n p, J) Q = pm_V X (d + 4) 157 182 [some (.ref 82), some (.int (nI cell)), some (.int (nI D)), some (.int (nI c)), some (.int (nI 16))] [] (pm_S0 ++ g, MS (pm_up C 103 (fsF I cell D c 16 F)) (rowT I 3 4 5) n p, J) Q := by
  intro d Q
  have L := pm_lp0 (fun k => pm_V X (d + 4) 157 115 [some (.ref 82), some (.int (nI cell)), some (.int (nI D)), some (.int (nI c)), some (.int (nI k))] [] (pm_S0 ++ g, MS (pm_up C 103 (fsF I cell D c k F)) (rowT I 3 4 5) n p, J) Q) 16 (by
    intro k hk
    have h1 : ((16 : Int32) ≤ nI k) = False := by
      rw [show (16 : Int32) = nI 16 from rfl, nI_le_l (by omega) (by omega)]
      exact eq_false (by omega)
    have hb := bad_nI (k := k) (n := 16) hk (by decide)
    have hcl := nI_clamp (n := k) (by omega)
    have hok : (nI k = nI cell) = (k = cell) := propext (nI_eq (by omega) (by omega))
    have r2 : MS (pm_up C 103 (fsF I cell D c k F)) (rowT I 3 4 5) n p 102 k = ldI (I 6) k := by
      rw [MS_rd (by decide), pu_ne (by decide)]
      exact hl k hk
    have r3 : MS (pm_up C 103 (fsF I cell D c k F)) (rowT I 3 4 5) n p 103 k = F k := by
      rw [MS_rd (by decide), pu_eq]
      unfold fsF
      rw [if_neg (fun z => Nat.lt_irrefl k z.1)]
    have ko := fun (d : Nat) (P : pm_O → Prop) (F : Nat → Int32) => K_M_op (X := X) (d := d) (P := P) (g := g) (n := n) (p := p) (F := F) hs hR hk
    have e1 : fsB I cell c F k = true → upd (fsF I cell D c k F) k (nI (D + 1)) = fsF I cell D c (k + 1) F := by
      intro z
      funext i
      rw [upd_app]
      unfold fsF
      by_cases q : i = k
      · subst q
        rw [if_pos rfl, if_pos ⟨Nat.lt_succ_self i, z⟩]
      · have : (i < k + 1) = (i < k) := propext (by omega)
        rw [if_neg q]
        simp only [this]
    have e0 : ¬ fsB I cell c F k = true → fsF I cell D c k F = fsF I cell D c (k + 1) F := by
      intro z
      funext i
      unfold fsF
      by_cases q : i = k
      · subst q
        rw [if_neg (fun u => Nat.lt_irrefl i u.1), if_neg (fun u => z u.2)]
      · have : (i < k + 1) = (i < k) := propext (by omega)
        simp only [this]
    show pm_V X (d + 4) 157 115 [some (.ref 82), some (.int (nI cell)), some (.int (nI D)), some (.int (nI c)), some (.int (nI k))] [] (pm_S0 ++ g, MS (pm_up C 103 (fsF I cell D c k F)) (rowT I 3 4 5) n p, J) Q = _
    unfold fsB at e0 e1
    generalize opI I k = z4 at ko e0 e1
    rw [e_M_reach_115]
    simp only [e_M_reach_117, e_M_reach_119, e_M_reach_122, e_M_reach_124, e_M_reach_125, e_M_reach_128, e_M_reach_129, e_M_reach_132, e_M_reach_134, e_M_reach_135, e_M_reach_138, e_M_reach_139, e_M_reach_140, e_M_reach_142, e_M_reach_145, e_M_reach_148, e_M_reach_149, e_M_reach_151, e_M_reach_152, e_M_reach_155, e_M_reach_157, e_M_reach_158, e_M_reach_159, e_M_reach_160, e_M_reach_163, e_M_reach_166, e_M_reach_167, e_M_reach_170, e_M_reach_172, e_M_reach_173, e_M_reach_174, e_M_reach_175, e_M_reach_176, e_M_reach_179, h1, hok, sh_o_82, sh_r_82_32, sh_r_82_31, sh_i_103, sh_i_102, sh_w_103, hb, hcl, r2, r3, ko, K_M_areNear, nI_1, pm_opt_some, pm_opt_none, pm_opt_if, Bool.false_eq_true, Bool.not_false, Bool.not_true, if_false, if_true, true_and, and_true, true_or, or_true, not_true_eq_false, not_false_eq_true, q10, q00, q01, q11, pk_v, pk_i, pk_l, pk_r]
    by_cases q1 : k = cell
    · rw [e0 (by simp [q1])]
      simp only [q1, pm_opt_some, pm_opt_none, pm_opt_if, Bool.false_eq_true, Bool.not_false, Bool.not_true, if_false, if_true, true_and, and_true, true_or, or_true, not_true_eq_false, not_false_eq_true, q10, q00, q01, q11, pk_v, pk_i, pk_l, pk_r]
    · by_cases q2 : F k = 0
      · by_cases q3 : nrB (nI c) (nI k) = true
        · cases z4 with
          | true =>
            simp only [q1, q2, q3, MS_103, pm_opt_some, pm_opt_none, pm_opt_if, Bool.false_eq_true, Bool.not_false, Bool.not_true, if_false, if_true, true_and, and_true, true_or, or_true, not_true_eq_false, not_false_eq_true, q10, q00, q01, q11, pk_v, pk_i, pk_l, pk_r]
            rw [e1 (by simp [q1, q2, q3])]
          | false =>
            simp only [q1, q2, q3, pm_opt_some, pm_opt_none, pm_opt_if, Bool.false_eq_true, Bool.not_false, Bool.not_true, if_false, if_true, true_and, and_true, true_or, or_true, not_true_eq_false, not_false_eq_true, q10, q00, q01, q11, pk_v, pk_i, pk_l, pk_r]
            rw [e0 (by simp)]
        · simp only [q1, q2, q3, pm_opt_some, pm_opt_none, pm_opt_if, Bool.false_eq_true, Bool.not_false, Bool.not_true, if_false, if_true, true_and, and_true, true_or, or_true, not_true_eq_false, not_false_eq_true, q10, q00, q01, q11, pk_v, pk_i, pk_l, pk_r]
          rw [e0 (by simp [q3])]
      · simp only [q1, q2, pm_opt_some, pm_opt_none, pm_opt_if, Bool.false_eq_true, Bool.not_false, Bool.not_true, if_false, if_true, true_and, and_true, true_or, or_true, not_true_eq_false, not_false_eq_true, q10, q00, q01, q11, pk_v, pk_i, pk_l, pk_r]
        rw [e0 (by simp [q2])]) 16 0 (by omega)
  have ez : fsF I cell D c 0 F = F := by
    funext i
    unfold fsF
    rw [if_neg (fun z => Nat.not_lt_zero i z.1)]
  rw [ez, nI_0] at L
  have h16 : ((16 : Int32) ≤ nI 16) = True := by decide
  rw [L, e_M_reach_115]
  simp only [e_M_reach_117, e_M_reach_119, h16, if_true]
/-- what stands behind the CELLS below k were asked -/
def rcS (I : Nat → Nat → Int32) (cell D k : Nat) (f f' : Nat → Nat) : Prop := ∀ o, o < 16 → (¬ f o = 0 → f' o = f o) ∧ (f o = 0 → ((¬ o = cell ∧ opI I o = true ∧ ∃ c, c < k ∧ f c = D ∧ nrB (nI c) (nI o) = true) → f' o = D + 1) ∧ (¬ (¬ o = cell ∧ opI I o = true ∧ ∃ c, c < k ∧ f c = D ∧ nrB (nI c) (nI o) = true) → f' o = 0))
theorem rcS_s {f f' : Nat → Nat} {F : Nat → Int32} {k : Nat} (hD : 0 < D) (hD2 : D < 20) (hF : ∀ i, i < 16 → F i = nI (f' i)) (hf : ∀ i, i < 16 → f i ≤ D) (h : rcS I cell D k f f') (hk : k < 16) : ∃ f'', rcS I cell D (k + 1) f f'' ∧ ∀ i, i < 16 → (if f k = D then fsF I cell D k 16 F i else F i) = nI (f'' i) := by
  by_cases hfk : f k = D
  · refine ⟨fun i => if ¬ i = cell ∧ f' i = 0 ∧ nrB (nI k) (nI i) = true ∧ opI I i = true then D + 1 else f' i, fun o ho => ⟨fun h0 => ?_, fun h0 => ⟨fun hx => ?_, fun hx => ?_⟩⟩, fun i hi => ?_⟩
    · have e := (h o ho).1 h0
      try dsimp only
      rw [if_neg (fun z => h0 (by rw [← e]; exact z.2.1)), e]
    · dsimp only
      obtain ⟨a1, a2, c, a3, a4, a5⟩ := hx
      by_cases hp : ∃ c, c < k ∧ f c = D ∧ nrB (nI c) (nI o) = true
      · have e := ((h o ho).2 h0).1 ⟨a1, a2, hp⟩
        rw [if_neg (fun z => by omega), e]
      · have e := ((h o ho).2 h0).2 (fun z => hp z.2.2)
        have hck : c = k := by
          refine Classical.byContradiction (fun z => hp ⟨c, by omega, a4, a5⟩)
        subst hck
        rw [if_pos ⟨a1, e, a5, a2⟩]
    · dsimp only
      have e := ((h o ho).2 h0).2 (fun z => hx ⟨z.1, z.2.1, by obtain ⟨c, b1, b2, b3⟩ := z.2.2; exact ⟨c, by omega, b2, b3⟩⟩)
      rw [if_neg (fun z => hx ⟨z.1, z.2.2.2, k, by omega, hfk, z.2.2.1⟩), e]
    · rw [if_pos hfk]
      unfold fsF fsB
      have e0 : (nI (f' i) = 0) = (f' i = 0) := by
        have hb : f' i ≤ D + 1 := by
          by_cases q : f i = 0
          · by_cases q2 : ¬ i = cell ∧ opI I i = true ∧ ∃ c, c < k ∧ f c = D ∧ nrB (nI c) (nI i) = true
            · have := ((h i hi).2 q).1 q2
              omega
            · have := ((h i hi).2 q).2 q2
              omega
          · have := (h i hi).1 q
            have := hf i hi
            omega
        rw [show (0 : Int32) = nI 0 from rfl]
        exact propext (nI_eq (by omega) (by decide))
      simp only [hi, true_and, Bool.and_eq_true, Bool.not_eq_true', decide_eq_false_iff_not, decide_eq_true_eq, e0, and_assoc, hF i hi]
      by_cases q : ¬ i = cell ∧ f' i = 0 ∧ nrB (nI k) (nI i) = true ∧ opI I i = true
      · rw [if_pos q, if_pos q]
      · rw [if_neg q, if_neg q]
  · refine ⟨f', fun o ho => ⟨(h o ho).1, fun h0 => ⟨fun hx => ((h o ho).2 h0).1 ?_, fun hx => ((h o ho).2 h0).2 ?_⟩⟩, fun i hi => by rw [if_neg hfk]; exact hF i hi⟩
    · obtain ⟨a1, a2, c, a3, a4, a5⟩ := hx
      refine ⟨a1, a2, c, ?_, a4, a5⟩
      by_cases q : c = k
      · subst q
        exact absurd a4 hfk
      · omega
    · rintro ⟨a1, a2, c, a3, a4, a5⟩
      exact hx ⟨a1, a2, c, by omega, a4, a5⟩
theorem M_rc_c (hs : sfr I C) (hR : Rel C J) (hl : ∀ j, j < 16 → C 102 j = ldI (I 6) j) (hcell : cell < 16) (hD : 0 < D) (hD2 : D < 20) {f : Nat → Nat} (hf : ∀ i, i < 16 → f i ≤ D) : ∀ (r k : Nat) (f' : Nat → Nat) (F : Nat → Int32) (l4 : Option Value), k + r = 16 → (∀ i, i < 16 → F i = nI (f' i)) → rcS I cell D k f f' → (∀ c, c < k → ¬ (f c = D ∧ nrB (nI c) (nI cell) = true)) → (∃ F', (∃ c, c < 16 ∧ f c = D ∧ nrB (nI c) (nI cell) = true) ∧ ∀ (d : Nat) (Q : pm_O → Prop), pm_V X (d + 4) 157 82 [some (.ref 82), some (.int (nI cell)), some (.int (nI D)), some (.int (nI k)), l4] [] (pm_S0 ++ g, MS (pm_up C 103 F) (rowT I 3 4 5) n p, J) Q = Q (some (.int (nI D)), (pm_S0 ++ g, MS (pm_up C 103 F') (rowT I 3 4 5) n p, J))) ∨ (∃ F' f'' l4', (∀ c, c < 16 → ¬ (f c = D ∧ nrB (nI c) (nI cell) = true)) ∧ rcS I cell D 16 f f'' ∧ (∀ i, i < 16 → F' i = nI (f'' i)) ∧ ∀ (d : Nat) (Q : pm_O → Prop), pm_V X (d + 4) 157 82 [some (.ref 82), some (.int (nI cell)), some (.int (nI D)), some (.int (nI k)), l4] [] (pm_S0 ++ g, MS (pm_up C 103 F) (rowT I 3 4 5) n p, J) Q = pm_V X (d + 4) 157 74 [some (.ref 82), some (.int (nI cell)), some (.int (nI (D + 1))), some (.int (nI 16)), l4'] [] (pm_S0 ++ g, MS (pm_up C 103 F') (rowT I 3 4 5) n p, J) Q) := by
  intro r
  induction r with
  | zero =>
    intro k f' F l4 hk hF hS hN
    obtain rfl : k = 16 := by omega
    have h16 : ((16 : Int32) ≤ nI 16) = True := by decide
    refine Or.inr ⟨F, f', l4, hN, hS, hF, fun d Q => ?_⟩
    rw [e_M_reach_82]
    simp only [e_M_reach_83, e_M_reach_85, e_M_reach_188, e_M_reach_191, h16, nI_1, if_true]
  | succ r ih =>
    intro k f' F l4 hk hF hS hN
    have hk16 : k < 16 := by omega
    have h1 : ((16 : Int32) ≤ nI k) = False := by
      rw [show (16 : Int32) = nI 16 from rfl, nI_le_l (by omega) (by omega)]
      exact eq_false (by omega)
    have hb := bad_nI (k := k) (n := 16) hk16 (by decide)
    have hcl := nI_clamp (n := k) (by omega)
    have r3 : MS (pm_up C 103 F) (rowT I 3 4 5) n p 103 k = F k := by rw [MS_rd (by decide), pu_eq]
    -- what stands at a CELL is at the distance just where it was so ahead of the pass
    have hkD : (F k = nI D) = (f k = D) := by
      have hS' := hS k hk16
      have hb' : f' k ≤ D + 1 ∧ (f' k = D ↔ f k = D) := by
        by_cases q : f k = 0
        · by_cases q2 : ¬ k = cell ∧ opI I k = true ∧ ∃ c, c < k ∧ f c = D ∧ nrB (nI c) (nI k) = true
          · have := (hS'.2 q).1 q2
            omega
          · have := (hS'.2 q).2 q2
            omega
        · have := hS'.1 q
          have := hf k hk16
          omega
      rw [hF k hk16]
      exact propext ((nI_eq (by omega) (by omega)).trans hb'.2)
    obtain ⟨f'', hS2, hF2⟩ := rcS_s hD hD2 hF hf hS hk16
    by_cases q1 : f k = D
    · by_cases q2 : nrB (nI k) (nI cell) = true
      · refine Or.inl ⟨F, ⟨k, hk16, q1, q2⟩, fun d Q => ?_⟩
        rw [e_M_reach_82]
        simp only [e_M_reach_83, e_M_reach_85, e_M_reach_88, e_M_reach_89, e_M_reach_92, e_M_reach_93, e_M_reach_94, e_M_reach_95, e_M_reach_101, e_M_reach_102, e_M_reach_103, e_M_reach_104, e_M_reach_107, e_M_reach_110, e_M_reach_111, h1, hb, hcl, r3, hkD, q1, q2, sh_o_82, sh_r_82_32, sh_i_103, K_M_areNear, pm_opt_some, pm_opt_none, pm_opt_if, Bool.false_eq_true, Bool.not_false, Bool.not_true, if_false, if_true, true_and, and_true, true_or, or_true, not_true_eq_false, not_false_eq_true, q10, q00, q01, q11, pk_v, pk_i, pk_l, pk_r]
      · have hN' : ∀ c, c < k + 1 → ¬ (f c = D ∧ nrB (nI c) (nI cell) = true) := by
          intro c hc
          by_cases e : c = k
          · subst e
            exact fun z => q2 z.2
          · exact hN c (by omega)
        have step : ∀ (d : Nat) (Q : pm_O → Prop), pm_V X (d + 4) 157 82 [some (.ref 82), some (.int (nI cell)), some (.int (nI D)), some (.int (nI k)), l4] [] (pm_S0 ++ g, MS (pm_up C 103 F) (rowT I 3 4 5) n p, J) Q = pm_V X (d + 4) 157 82 [some (.ref 82), some (.int (nI cell)), some (.int (nI D)), some (.int (nI (k + 1))), some (.int (nI 16))] [] (pm_S0 ++ g, MS (pm_up C 103 (fsF I cell D k 16 F)) (rowT I 3 4 5) n p, J) Q := by
          intro d Q
          rw [e_M_reach_82]
          simp only [e_M_reach_83, e_M_reach_85, e_M_reach_88, e_M_reach_89, e_M_reach_92, e_M_reach_93, e_M_reach_94, e_M_reach_95, e_M_reach_101, e_M_reach_102, e_M_reach_103, e_M_reach_104, e_M_reach_107, e_M_reach_112, e_M_reach_113, h1, hb, hcl, r3, hkD, q1, q2, sh_o_82, sh_r_82_32, sh_i_103, K_M_areNear, pm_opt_some, pm_opt_none, pm_opt_if, Bool.false_eq_true, Bool.not_false, Bool.not_true, if_false, if_true, true_and, and_true, true_or, or_true, not_true_eq_false, not_false_eq_true, q10, q00, q01, q11, pk_v, pk_i, pk_l, pk_r]
          rw [M_rc_o hs hR hl hcell hk16, e_M_reach_182]
          simp only [e_M_reach_185, nI_1]
        simp only [q1, if_true] at hF2
        rcases ih (k + 1) f'' (fsF I cell D k 16 F) (some (.int (nI 16))) (by omega) hF2 hS2 hN' with ⟨F', h2, h3⟩ | ⟨F', f3, l5, h2, h3, h4, h5⟩
        · exact Or.inl ⟨F', h2, fun d Q => (step d Q).trans (h3 d Q)⟩
        · exact Or.inr ⟨F', f3, l5, h2, h3, h4, fun d Q => (step d Q).trans (h5 d Q)⟩
    · have hN' : ∀ c, c < k + 1 → ¬ (f c = D ∧ nrB (nI c) (nI cell) = true) := by
        intro c hc
        by_cases e : c = k
        · subst e
          exact fun z => q1 z.1
        · exact hN c (by omega)
      have step : ∀ (d : Nat) (Q : pm_O → Prop), pm_V X (d + 4) 157 82 [some (.ref 82), some (.int (nI cell)), some (.int (nI D)), some (.int (nI k)), l4] [] (pm_S0 ++ g, MS (pm_up C 103 F) (rowT I 3 4 5) n p, J) Q = pm_V X (d + 4) 157 82 [some (.ref 82), some (.int (nI cell)), some (.int (nI D)), some (.int (nI (k + 1))), l4] [] (pm_S0 ++ g, MS (pm_up C 103 F) (rowT I 3 4 5) n p, J) Q := by
        intro d Q
        rw [e_M_reach_82]
        simp only [e_M_reach_83, e_M_reach_85, e_M_reach_88, e_M_reach_89, e_M_reach_92, e_M_reach_93, e_M_reach_94, e_M_reach_95, e_M_reach_98, e_M_reach_182, e_M_reach_185, h1, hb, hcl, r3, hkD, q1, sh_o_82, sh_r_82_32, sh_i_103, nI_1, pm_opt_some, pm_opt_none, pm_opt_if, Bool.false_eq_true, Bool.not_false, Bool.not_true, if_false, if_true, true_and, and_true, true_or, or_true, not_true_eq_false, not_false_eq_true, q10, q00, q01, q11, pk_v, pk_i, pk_l, pk_r]
      simp only [q1, if_false] at hF2
      rcases ih (k + 1) f'' F l4 (by omega) hF2 hS2 hN' with ⟨F', h2, h3⟩ | ⟨F', f3, l5, h2, h3, h4, h5⟩
      · exact Or.inl ⟨F', h2, fun d Q => (step d Q).trans (h3 d Q)⟩
      · exact Or.inr ⟨F', f3, l5, h2, h3, h4, fun d Q => (step d Q).trans (h5 d Q)⟩
/-- the two searches side by side -/
def rcR (I : Nat → Nat → Int32) (cell D : Nat) (f : Nat → Nat) (x : Int32) : Prop := m16 x ∧ (∀ c, c < 16 → (bt x c = true ↔ ¬ f c = 0)) ∧ (∀ c, c < 16 → f c ≤ D) ∧ (∀ c, c < 16 → 0 < f c → f c < D → ¬ nrB (nI c) (nI cell) = true) ∧ ∀ c o, c < 16 → o < 16 → 0 < f c → f c < D → nrB (nI c) (nI o) = true → ¬ o = cell → opI I o = true → ¬ f o = 0
theorem opn_bt {cell : Nat} (hc : cell < 16) (hj : j < 32) : bt (boM I &&& (1 <<< (nI cell &&& 31) ^^^ (-1))) j = true ↔ j < 16 ∧ ¬ j = cell ∧ opI I j = true := by
  rw [bt_and2, Bool.and_eq_true, boM_bt hj, bt_m1 hj, bit_all cell hc j hj, Bool.not_eq_true', decide_eq_false_iff_not]
  constructor
  · rintro ⟨⟨h1, h2⟩, h3⟩
    exact ⟨h1, h3, h2⟩
  · rintro ⟨h1, h3, h2⟩
    exact ⟨⟨h1, h2⟩, h3⟩
theorem goal_iff {f : Nat → Nat} (hc : cell < 16) (h : rcR I cell D f x) : (x &&& nearE (1 <<< (nI cell &&& 31)) = 0) ↔ ∀ c, c < 16 → ¬ (f c = D ∧ 0 < D ∧ nrB (nI c) (nI cell) = true) := by
  obtain ⟨h1, h2, h3, h4, h5⟩ := h
  constructor
  · intro e c hc' ⟨z1, z2, z3⟩
    refine bt_ne0.mpr ⟨c, by omega, ?_⟩ e
    rw [bt_and2, Bool.and_eq_true, h2 c hc', nbt_all cell hc c (by omega), Bool.and_eq_true, decide_eq_true_eq, nr_sym cell hc c hc']
    exact ⟨by omega, hc', z3⟩
  · intro e
    refine Classical.byContradiction (fun z => ?_)
    obtain ⟨j, hj, hb⟩ := bt_ne0.mp z
    rw [bt_and2, Bool.and_eq_true, nbt_all cell hc j hj, Bool.and_eq_true, decide_eq_true_eq] at hb
    obtain ⟨b1, b2, b3⟩ := hb
    rw [nr_sym cell hc j b2] at b3
    rw [h2 j b2] at b1
    have := h3 j b2
    by_cases q : f j = D
    · exact e j b2 ⟨q, by omega, b3⟩
    · exact h4 j b2 (by omega) (by omega) b3
theorem rcR_s {f f' : Nat → Nat} (hc : cell < 16) (hD : 0 < D) (h : rcR I cell D f x) (hN : ∀ c, c < 16 → ¬ (f c = D ∧ nrB (nI c) (nI cell) = true)) (hS : rcS I cell D 16 f f') : rcR I cell (D + 1) f' (x ||| ((boM I &&& (1 <<< (nI cell &&& 31) ^^^ (-1))) &&& nearE x)) := by
  obtain ⟨h1, h2, h3, h4, h5⟩ := h
  have key : ∀ o, o < 16 → (¬ f' o = 0 ↔ ¬ f o = 0 ∨ (¬ o = cell ∧ opI I o = true ∧ ∃ c, c < 16 ∧ f c = D ∧ nrB (nI c) (nI o) = true)) := by
    intro o ho
    obtain ⟨s1, s2⟩ := hS o ho
    by_cases q : f o = 0
    · by_cases q2 : ¬ o = cell ∧ opI I o = true ∧ ∃ c, c < 16 ∧ f c = D ∧ nrB (nI c) (nI o) = true
      · have := (s2 q).1 q2
        exact ⟨fun _ => Or.inr q2, fun _ => by omega⟩
      · have := (s2 q).2 q2
        exact ⟨fun z => absurd this z, fun z => (z.elim (fun u => absurd q u) (fun u => absurd u q2))⟩
    · have := s1 q
      exact ⟨fun _ => Or.inl q, fun _ => by omega⟩
  have low : ∀ c, c < 16 → 0 < f' c → f' c < D + 1 → f c = f' c := by
    intro c hc' a1 a2
    obtain ⟨s1, s2⟩ := hS c hc'
    by_cases q : f c = 0
    · by_cases q2 : ¬ c = cell ∧ opI I c = true ∧ ∃ c', c' < 16 ∧ f c' = D ∧ nrB (nI c') (nI c) = true
      · have := (s2 q).1 q2
        omega
      · have := (s2 q).2 q2
        omega
    · exact (s1 q).symm
  refine ⟨fun j h16 h32 => ?_, fun o ho => ?_, fun c hc' => ?_, fun c hc' a1 a2 => ?_, fun c o hc' ho a1 a2 a3 a4 a5 => ?_⟩
  · rw [bt_or2, bt_and2, h1 j h16 h32, Bool.false_or]
    cases e : bt (boM I &&& (1 <<< (nI cell &&& 31) ^^^ (-1))) j with
    | false => rfl
    | true =>
      have := (opn_bt hc h32).mp e
      omega
  · rw [bt_or2, bt_and2, Bool.or_eq_true, Bool.and_eq_true, h2 o ho, opn_bt hc (show o < 32 by omega), near_bt h1 (show o < 32 by omega), key o ho]
    constructor
    · rintro (z | ⟨⟨_, z1, z2⟩, _, c, z3, z4, z5⟩)
      · exact Or.inl z
      · rw [h2 c z3] at z4
        by_cases q : f c = D
        · exact Or.inr ⟨z1, z2, c, z3, q, z5⟩
        · have := h3 c z3
          exact Or.inl (h5 c o z3 ho (by omega) (by omega) z5 z1 z2)
    · rintro (z | ⟨z1, z2, c, z3, z4, z5⟩)
      · exact Or.inl z
      · exact Or.inr ⟨⟨ho, z1, z2⟩, ho, c, z3, (h2 c z3).mpr (by omega), z5⟩
  · obtain ⟨s1, s2⟩ := hS c hc'
    have := h3 c hc'
    by_cases q : f c = 0
    · by_cases q2 : ¬ c = cell ∧ opI I c = true ∧ ∃ c', c' < 16 ∧ f c' = D ∧ nrB (nI c') (nI c) = true
      · have := (s2 q).1 q2
        omega
      · have := (s2 q).2 q2
        omega
    · have := s1 q
      omega
  · have e := low c hc' a1 a2
    by_cases q : f c = D
    · exact fun z => hN c hc' ⟨q, z⟩
    · exact h4 c hc' (by omega) (by omega)
  · have e := low c hc' a1 a2
    rw [key o ho]
    by_cases q : f c = D
    · exact Or.inr ⟨a4, a5, c, hc', q, a3⟩
    · exact Or.inl (h5 c o hc' ho (by omega) (by omega) a3 a4 a5)
theorem M_rc_d (hs : sfr I C) (hR : Rel C J) (hl : ∀ j, j < 16 → C 102 j = ldI (I 6) j) (hcell : cell < 16) : ∀ (r D : Nat) (f : Nat → Nat) (F : Nat → Int32) (x : Int32) (l3 l4 : Option Value), D + r = 17 → 0 < D → (∀ i, i < 16 → F i = nI (f i)) → rcR I cell D f x → ∃ F', ∀ (d : Nat) (Q : pm_O → Prop), pm_V X (d + 4) 157 74 [some (.ref 82), some (.int (nI cell)), some (.int (nI D)), l3, l4] [] (pm_S0 ++ g, MS (pm_up C 103 F) (rowT I 3 4 5) n p, J) Q = Q (some (.int (rcV (boM I &&& (1 <<< (nI cell &&& 31) ^^^ (-1))) (nearE (1 <<< (nI cell &&& 31))) r D x)), (pm_S0 ++ g, MS (pm_up C 103 F') (rowT I 3 4 5) n p, J)) := by
  intro r
  induction r with
  | zero =>
    intro D f F x l3 l4 hD hD0 hF hx
    obtain rfl : D = 17 := by omega
    have h1 : ((17 : Int32) ≤ nI 17) = True := by decide
    refine ⟨F, fun d Q => ?_⟩
    rw [e_M_reach_74]
    simp only [e_M_reach_75, e_M_reach_77, e_M_reach_194, e_M_reach_196, h1, rcV, pm_opt_some, pm_opt_none, pm_opt_if, Bool.false_eq_true, Bool.not_false, Bool.not_true, if_false, if_true, true_and, and_true, true_or, or_true, not_true_eq_false, not_false_eq_true, q10, q00, q01, q11, pk_v, pk_i, pk_l, pk_r]
  | succ r ih =>
    intro D f F x l3 l4 hD hD0 hF hx
    have h1 : ((17 : Int32) ≤ nI D) = False := by
      rw [show (17 : Int32) = nI 17 from rfl, nI_le_l (by omega) (by omega)]
      exact eq_false (by omega)
    have gi := goal_iff hcell hx
    have S0 : rcS I cell D 0 f f := fun o ho => ⟨fun _ => rfl, fun h0 => ⟨fun z => by obtain ⟨_, _, c, hc, _⟩ := z; omega, fun _ => h0⟩⟩
    have beg : ∀ (d : Nat) (Q : pm_O → Prop), pm_V X (d + 4) 157 74 [some (.ref 82), some (.int (nI cell)), some (.int (nI D)), l3, l4] [] (pm_S0 ++ g, MS (pm_up C 103 F) (rowT I 3 4 5) n p, J) Q = pm_V X (d + 4) 157 82 [some (.ref 82), some (.int (nI cell)), some (.int (nI D)), some (.int (nI 0)), l4] [] (pm_S0 ++ g, MS (pm_up C 103 F) (rowT I 3 4 5) n p, J) Q := by
      intro d Q
      rw [e_M_reach_74]
      simp only [e_M_reach_75, e_M_reach_77, e_M_reach_80, e_M_reach_81, h1, nI_0, if_false]
    rcases M_rc_c (X := X) (g := g) (n := n) (p := p) hs hR hl hcell hD0 (by omega) hx.2.2.1 16 0 f F l4 (by omega) hF S0 (fun c hc => absurd hc (Nat.not_lt_zero c)) with ⟨F', ⟨c, c1, c2, c3⟩, h3⟩ | ⟨F', f3, l5, h2, h3, h4, h5⟩
    · have ne : ¬ x &&& nearE (1 <<< (nI cell &&& 31)) = 0 := fun z => gi.mp z c c1 ⟨c2, hD0, c3⟩
      refine ⟨F', fun d Q => ?_⟩
      rw [beg, h3, rcV, if_neg ne]
    · have eq : x &&& nearE (1 <<< (nI cell &&& 31)) = 0 := gi.mpr (fun c hc z => h2 c hc ⟨z.1, z.2.2⟩)
      obtain ⟨F2, h6⟩ := ih (D + 1) f3 F' _ (some (.int (nI 16))) l5 (by omega) (by omega) h4 (rcR_s hcell hD0 hx h2 h3)
      refine ⟨F2, fun d Q => ?_⟩
      rw [beg, h5, h6, rcV, if_pos eq]
/-- who stands at the shore -/
theorem M_rc_pre (hs : sfr I C) (hR : Rel C J) (hl : ∀ j, j < 16 → C 102 j = ldI (I 6) j) : ∀ (d : Nat) (Q : pm_O → Prop), pm_V X (d + 4) 157 26 [some (.ref 82), some (.int a), none, none, none] [] (pm_S0 ++ g, MS (pm_up C 103 F) (rowT I 3 4 5) n p, J) Q = pm_V X (d + 4) 157 74 [some (.ref 82), some (.int a), some (.int (nI 1)), none, none] [] (pm_S0 ++ g, MS (pm_up C 103 (fun i => if i < 16 then (if i < 4 ∧ opI I i = true then 1 else 0) else F i)) (rowT I 3 4 5) n p, J) Q := by
  intro d Q
  have L := pm_lp0 (fun k => pm_V X (d + 4) 157 28 [some (.ref 82), some (.int a), some (.int (nI k)), none, none] [] (pm_S0 ++ g, MS (pm_up C 103 (fun i => if i < k then (if i < 4 ∧ opI I i = true then 1 else 0) else F i)) (rowT I 3 4 5) n p, J) Q) 16 (by
    intro k hk
    have h1 : ((16 : Int32) ≤ nI k) = False := by
      rw [show (16 : Int32) = nI 16 from rfl, nI_le_l (by omega) (by omega)]
      exact eq_false (by omega)
    have h4 : ((4 : Int32) ≤ nI k) = (4 ≤ k) := by
      rw [show (4 : Int32) = nI 4 from rfl, nI_le_l (by omega) (by omega)]
    have hb := bad_nI (k := k) (n := 16) hk (by decide)
    have hcl := nI_clamp (n := k) (by omega)
    have r2 : MS (pm_up C 103 (fun i => if i < k then (if i < 4 ∧ opI I i = true then 1 else 0) else F i)) (rowT I 3 4 5) n p 102 k = ldI (I 6) k := by
      rw [MS_rd (by decide), pu_ne (by decide)]
      exact hl k hk
    have ko := fun (d : Nat) (P : pm_O → Prop) (F : Nat → Int32) => K_M_op (X := X) (d := d) (P := P) (g := g) (n := n) (p := p) (F := F) hs hR hk
    have e : upd (fun i => if i < k then (if i < 4 ∧ opI I i = true then (1 : Int32) else 0) else F i) k (if k < 4 ∧ opI I k = true then 1 else 0) = (fun i => if i < k + 1 then (if i < 4 ∧ opI I i = true then 1 else 0) else F i) := by
      funext i
      rw [upd_app]
      by_cases q : i = k
      · subst q
        rw [if_pos rfl, if_pos (Nat.lt_succ_self i)]
      · have : (i < k + 1) = (i < k) := propext (by omega)
        rw [if_neg q]
        simp only [this]
    rw [← e]
    show pm_V X (d + 4) 157 28 [some (.ref 82), some (.int a), some (.int (nI k)), none, none] [] (pm_S0 ++ g, MS (pm_up C 103 (fun i => if i < k then (if i < 4 ∧ opI I i = true then 1 else 0) else F i)) (rowT I 3 4 5) n p, J) Q = _
    generalize (fun i => if i < k then (if i < 4 ∧ opI I i = true then (1 : Int32) else 0) else F i) = G at r2 ⊢
    generalize opI I k = z at ko ⊢
    rw [e_M_reach_28]
    simp only [e_M_reach_29, e_M_reach_31, e_M_reach_34, e_M_reach_35, e_M_reach_38, e_M_reach_39, e_M_reach_40, e_M_reach_41, e_M_reach_44, e_M_reach_45, e_M_reach_46, e_M_reach_47, e_M_reach_50, e_M_reach_51, e_M_reach_52, e_M_reach_53, e_M_reach_54, e_M_reach_57, e_M_reach_60, e_M_reach_61, e_M_reach_64, e_M_reach_65, e_M_reach_66, e_M_reach_69, h1, h4, sh_o_82, sh_r_82_32, sh_r_82_31, sh_i_102, sh_w_103, hb, hcl, r2, ko, MS_103, nI_1, pm_opt_some, pm_opt_none, pm_opt_if, Bool.false_eq_true, Bool.not_false, Bool.not_true, if_false, if_true, true_and, and_true, true_or, or_true, not_true_eq_false, not_false_eq_true, q10, q00, q01, q11, pk_v, pk_i, pk_l, pk_r]
    by_cases q : 4 ≤ k
    · have q' : ¬ k < 4 := by omega
      simp only [q, q', false_and, pm_opt_some, pm_opt_none, pm_opt_if, Bool.false_eq_true, Bool.not_false, Bool.not_true, if_false, if_true, true_and, and_true, true_or, or_true, not_true_eq_false, not_false_eq_true, q10, q00, q01, q11, pk_v, pk_i, pk_l, pk_r]
    · have q' : k < 4 := by omega
      cases z with
      | true => simp only [q, q', pm_opt_some, pm_opt_none, pm_opt_if, Bool.false_eq_true, Bool.not_false, Bool.not_true, if_false, if_true, true_and, and_true, true_or, or_true, not_true_eq_false, not_false_eq_true, q10, q00, q01, q11, pk_v, pk_i, pk_l, pk_r]
      | false => simp only [q, and_false, pm_opt_some, pm_opt_none, pm_opt_if, Bool.false_eq_true, Bool.not_false, Bool.not_true, if_false, if_true, true_and, and_true, true_or, or_true, not_true_eq_false, not_false_eq_true, q10, q00, q01, q11, pk_v, pk_i, pk_l, pk_r]) 16 0 (by omega)
  have e0 : (fun i => if i < 0 then (if i < 4 ∧ opI I i = true then (1 : Int32) else 0) else F i) = F := by
    funext i
    rw [if_neg (Nat.not_lt_zero i)]
  rw [e0, nI_0] at L
  have h16 : ((16 : Int32) ≤ nI 16) = True := by decide
  simp only [e_M_reach_26, e_M_reach_27]
  rw [L, e_M_reach_28]
  simp only [e_M_reach_29, e_M_reach_31, e_M_reach_72, e_M_reach_73, h16, if_true]
  rfl
theorem Pair_reach (hR : Rel I J) : Pair X 14 157 [.int a] g I J := by
  by_cases ha : 0 ≤ a ∧ a ≤ 15
  · obtain ⟨cell, hc15, rfl⟩ := in_of (m := 15) rfl ha
    have hc : cell < 16 := by omega
    have sh := shore_all cell hc
    have h4 : (4 ≤ nI cell) = (4 ≤ cell) := by
      rw [show (4 : Int32) = nI 4 from rfl, nI_le_l (by omega) (by omega)]
    by_cases q : cell < 4
    · have q1 : (1 <<< (nI cell &&& 31) &&& 15 = 0) = False := eq_false (fun z => sh.mp z q)
      have q2 : (4 ≤ cell) = False := eq_false (by omega)
      refine Pair_q (v := .int 0) hR ⟨I, sfr_rf, K50 fun d' => ?_⟩ (fun I1 h1 hR1 => ⟨I1, sfr_rf, K50 fun d' => ?_⟩)
      · show pm_V X (d' + 49) 14 0 [some (.ref 0), some (.int (nI cell)), none, none, none, none, none] [] (pm_S0 ++ g, I, J) _
        simp only [e_B_reach_0, e_B_reach_1, e_B_reach_4, e_B_reach_7, e_B_reach_8, e_B_reach_9, e_B_reach_10, e_B_reach_11, e_B_reach_12, e_B_reach_13, e_B_reach_14, e_B_reach_16, e_B_reach_17, e_B_reach_20, e_B_reach_21, e_B_reach_22, e_B_reach_23, e_B_reach_26, e_B_reach_27, e_B_reach_28, e_B_reach_29, e_B_reach_30, e_B_reach_31, e_B_reach_32, e_B_reach_35, e_B_reach_37, e_B_reach_38, e_B_reach_40, e_B_reach_41, e_B_reach_43, e_B_reach_44, e_B_reach_48, e_B_reach_50, e_B_reach_53, e_B_reach_55, e_B_reach_57, e_B_reach_58, e_B_reach_61, e_B_reach_63, e_B_reach_64, e_B_reach_66, e_B_reach_67, e_B_reach_69, e_B_reach_72, e_B_reach_73, e_B_reach_74, e_B_reach_76, e_B_reach_79, e_B_reach_82, e_B_reach_84, K_B_isCell, eq_true ha, q1, pm_opt_some, pm_opt_none, pm_opt_if, Bool.false_eq_true, Bool.not_false, Bool.not_true, if_false, if_true, true_and, and_true, true_or, or_true, not_true_eq_false, not_false_eq_true, q10, q00, q01, q11, pk_v, pk_i, pk_l, pk_r]
      · show pm_V X (d' + 49) 157 0 [some (.ref 82), some (.int (nI cell)), none, none, none] [] (pm_S0 ++ g, I1, J) _
        simp only [e_M_reach_0, e_M_reach_1, e_M_reach_2, e_M_reach_5, e_M_reach_8, e_M_reach_9, e_M_reach_10, e_M_reach_11, e_M_reach_12, e_M_reach_15, e_M_reach_16, e_M_reach_17, e_M_reach_18, e_M_reach_21, e_M_reach_22, e_M_reach_23, e_M_reach_27, e_M_reach_29, e_M_reach_31, e_M_reach_34, e_M_reach_35, e_M_reach_38, e_M_reach_39, e_M_reach_40, e_M_reach_41, e_M_reach_44, e_M_reach_45, e_M_reach_46, e_M_reach_47, e_M_reach_50, e_M_reach_51, e_M_reach_52, e_M_reach_53, e_M_reach_54, e_M_reach_57, e_M_reach_60, e_M_reach_61, e_M_reach_64, e_M_reach_65, e_M_reach_66, e_M_reach_69, e_M_reach_72, e_M_reach_73, e_M_reach_75, e_M_reach_77, e_M_reach_80, e_M_reach_81, e_M_reach_83, e_M_reach_85, e_M_reach_88, e_M_reach_89, e_M_reach_92, e_M_reach_93, e_M_reach_94, e_M_reach_95, e_M_reach_98, e_M_reach_101, e_M_reach_102, e_M_reach_103, e_M_reach_104, e_M_reach_107, e_M_reach_110, e_M_reach_111, e_M_reach_112, e_M_reach_113, e_M_reach_117, e_M_reach_119, e_M_reach_122, e_M_reach_124, e_M_reach_125, e_M_reach_128, e_M_reach_129, e_M_reach_132, e_M_reach_134, e_M_reach_135, e_M_reach_138, e_M_reach_139, e_M_reach_140, e_M_reach_142, e_M_reach_145, e_M_reach_148, e_M_reach_149, e_M_reach_151, e_M_reach_152, e_M_reach_155, e_M_reach_157, e_M_reach_158, e_M_reach_159, e_M_reach_160, e_M_reach_163, e_M_reach_166, e_M_reach_167, e_M_reach_170, e_M_reach_172, e_M_reach_173, e_M_reach_174, e_M_reach_175, e_M_reach_176, e_M_reach_179, e_M_reach_182, e_M_reach_185, e_M_reach_188, e_M_reach_191, e_M_reach_194, e_M_reach_196, sh_o_82, K_M_isCell, eq_true ha, h4, q2, pm_opt_some, pm_opt_none, pm_opt_if, Bool.false_eq_true, Bool.not_false, Bool.not_true, if_false, if_true, true_and, and_true, true_or, or_true, not_true_eq_false, not_false_eq_true, q10, q00, q01, q11, pk_v, pk_i, pk_l, pk_r]
    · have q1 : (1 <<< (nI cell &&& 31) &&& 15 = 0) = True := eq_true (sh.mpr q)
      have q2 : (4 ≤ cell) = True := eq_true (by omega)
      have hX := Rel_WX hR
      have hL := B_rc_loop (X := X) (g := g) (I := I) (J := J) (a := nI cell) (op := boM I &&& (1 <<< (nI cell &&& 31) ^^^ (-1))) (go := nearE (1 <<< (nI cell &&& 31))) (bi := 1 <<< (nI cell &&& 31)) 16 1 ((boM I &&& (1 <<< (nI cell &&& 31) ^^^ (-1))) &&& 15) (by omega)
      refine Pair_q (v := .int (rcV (boM I &&& (1 <<< (nI cell &&& 31) ^^^ (-1))) (nearE (1 <<< (nI cell &&& 31))) 16 1 ((boM I &&& (1 <<< (nI cell &&& 31) ^^^ (-1))) &&& 15))) hR ⟨I, sfr_rf, K50 fun d' => ?_⟩ (fun I1 h1 hR1 => ?_)
      · have hL' := hL (d' + 47)
        show pm_V X (d' + 49) 14 0 [some (.ref 0), some (.int (nI cell)), none, none, none, none, none] [] (pm_S0 ++ g, I, J) _
        simp only [e_B_reach_0, e_B_reach_1, e_B_reach_4, e_B_reach_7, e_B_reach_8, e_B_reach_9, e_B_reach_10, e_B_reach_11, e_B_reach_12, e_B_reach_13, e_B_reach_14, e_B_reach_16, e_B_reach_17, e_B_reach_20, e_B_reach_21, e_B_reach_22, e_B_reach_23, e_B_reach_26, e_B_reach_27, e_B_reach_28, e_B_reach_29, e_B_reach_30, e_B_reach_31, e_B_reach_32, e_B_reach_35, e_B_reach_37, e_B_reach_38, e_B_reach_40, e_B_reach_41, e_B_reach_43, e_B_reach_44, e_B_reach_48, e_B_reach_50, e_B_reach_53, e_B_reach_55, e_B_reach_57, e_B_reach_58, e_B_reach_61, e_B_reach_63, e_B_reach_64, e_B_reach_66, e_B_reach_67, e_B_reach_69, e_B_reach_72, e_B_reach_73, e_B_reach_74, e_B_reach_76, e_B_reach_79, e_B_reach_82, e_B_reach_84, K_B_isCell, eq_true ha, q1, sh_o_0, K_B_bearingOneMore (WX_ok hX), K_B_nearOf, pm_opt_some, pm_opt_none, pm_opt_if, Bool.false_eq_true, Bool.not_false, Bool.not_true, if_false, if_true, true_and, and_true, true_or, or_true, not_true_eq_false, not_false_eq_true, q10, q00, q01, q11, pk_v, pk_i, pk_l, pk_r]
        refine Eq.mpr (hL' _) ?_
        rfl
      · have hs0 : sfr I (nL I1) := sfr_tr h1 nL_sfr
        have hs1 : sfr (nL I1) (pm_up (nL I1) 102 (fun i => if i < 16 then ldI (nL I1 6) i else nL I1 102 i)) := sfr_102
        have kl := fun (d : Nat) (P : pm_O → Prop) => K_M_layL (X := X) (d := d) (P := P) (g := g) (J := J) (B := nL I1) (T := rowT I 3 4 5) (n := nI (hN I)) (p := I1 98) (m := 4) (by decide) (Rel_86 (Rel_s nL_sfr hR1))
        rw [ldC_4] at kl
        have hs2 := sfr_tr hs0 hs1
        have hR2 := Rel_s hs1 (Rel_s nL_sfr hR1)
        have hl2 : ∀ j, j < 16 → pm_up (nL I1) 102 (fun i => if i < 16 then ldI (nL I1 6) i else nL I1 102 i) 102 j = ldI (I 6) j := by
          intro j hj
          rw [pu_eq, if_pos hj, sfr_at hs0 (q := 6) (by decide)]
        have hs3 : sfr I1 (pm_up (nL I1) 102 (fun i => if i < 16 then ldI (nL I1 6) i else nL I1 102 i)) := sfr_tr nL_sfr hs1
        generalize pm_up (nL I1) 102 (fun i => if i < 16 then ldI (nL I1 6) i else nL I1 102 i) = C at kl hs2 hR2 hl2 hs3
        have pre := M_rc_pre (X := X) (g := g) (n := nI (hN I)) (p := I1 98) (F := C 103) (a := nI cell) hs2 hR2 hl2
        rw [pu_self] at pre
        have ini : rcR I cell 1 (fun i => if i < 4 ∧ opI I i = true then 1 else 0) ((boM I &&& (1 <<< (nI cell &&& 31) ^^^ (-1))) &&& 15) := by
          refine ⟨fun j a1 a2 => ?_, fun c hc' => ?_, fun c hc' => ?_, fun c hc' a1 a2 => ?_, fun c o hc' ho a1 a2 => ?_⟩
          · rw [bt_and2, bt_15 j a2]
            have : decide (j < 4) = false := decide_eq_false (by omega)
            rw [this, Bool.and_false]
          · rw [bt_and2, Bool.and_eq_true, opn_bt hc (show c < 32 by omega), bt_15 c (by omega), decide_eq_true_eq]
            try dsimp only
            by_cases z : c < 4 ∧ opI I c = true
            · rw [if_pos z]
              exact ⟨fun _ => by decide, fun _ => ⟨⟨hc', by omega, z.2⟩, z.1⟩⟩
            · rw [if_neg z]
              exact ⟨fun u => absurd ⟨u.2, u.1.2.2⟩ z, fun u => absurd rfl u⟩
          · dsimp only
            split
            · omega
            · omega
          · omega
          · omega
        obtain ⟨F', hM⟩ := M_rc_d (X := X) (g := g) (n := nI (hN I)) (p := I1 98) hs2 hR2 hl2 hc 16 1 (fun i => if i < 4 ∧ opI I i = true then 1 else 0) (fun i => if i < 16 then (if i < 4 ∧ opI I i = true then 1 else 0) else C 103 i) _ none none (by omega) (by decide) (fun i hi => by
          try dsimp only
          rw [if_pos hi]
          split
          · rfl
          · rfl) ini
        refine ⟨MS (pm_up C 103 F') (rowT I 3 4 5) (nI (hN I)) (I1 98), sfr_tr hs3 (sfr_tr sfr_103 MS_sfr), K50 fun d' => ?_⟩
        have hM' := hM (d' + 45)
        have n4 : nI 4 = 4 := rfl
        rw [n4] at kl
        show pm_V X (d' + 49) 157 0 [some (.ref 82), some (.int (nI cell)), none, none, none] [] (pm_S0 ++ g, I1, J) _
        simp only [e_M_reach_0, e_M_reach_1, e_M_reach_2, e_M_reach_5, e_M_reach_8, e_M_reach_9, e_M_reach_10, e_M_reach_11, e_M_reach_12, e_M_reach_15, e_M_reach_16, e_M_reach_17, e_M_reach_18, e_M_reach_21, e_M_reach_22, e_M_reach_23, e_M_reach_27, e_M_reach_29, e_M_reach_31, e_M_reach_34, e_M_reach_35, e_M_reach_38, e_M_reach_39, e_M_reach_40, e_M_reach_41, e_M_reach_44, e_M_reach_45, e_M_reach_46, e_M_reach_47, e_M_reach_50, e_M_reach_51, e_M_reach_52, e_M_reach_53, e_M_reach_54, e_M_reach_57, e_M_reach_60, e_M_reach_61, e_M_reach_64, e_M_reach_65, e_M_reach_66, e_M_reach_69, e_M_reach_72, e_M_reach_73, e_M_reach_75, e_M_reach_77, e_M_reach_80, e_M_reach_81, e_M_reach_83, e_M_reach_85, e_M_reach_88, e_M_reach_89, e_M_reach_92, e_M_reach_93, e_M_reach_94, e_M_reach_95, e_M_reach_98, e_M_reach_101, e_M_reach_102, e_M_reach_103, e_M_reach_104, e_M_reach_107, e_M_reach_110, e_M_reach_111, e_M_reach_112, e_M_reach_113, e_M_reach_117, e_M_reach_119, e_M_reach_122, e_M_reach_124, e_M_reach_125, e_M_reach_128, e_M_reach_129, e_M_reach_132, e_M_reach_134, e_M_reach_135, e_M_reach_138, e_M_reach_139, e_M_reach_140, e_M_reach_142, e_M_reach_145, e_M_reach_148, e_M_reach_149, e_M_reach_151, e_M_reach_152, e_M_reach_155, e_M_reach_157, e_M_reach_158, e_M_reach_159, e_M_reach_160, e_M_reach_163, e_M_reach_166, e_M_reach_167, e_M_reach_170, e_M_reach_172, e_M_reach_173, e_M_reach_174, e_M_reach_175, e_M_reach_176, e_M_reach_179, e_M_reach_182, e_M_reach_185, e_M_reach_188, e_M_reach_191, e_M_reach_194, e_M_reach_196, sh_o_82, K_M_isCell, eq_true ha, h4, q2, M_asIs hR1 h1, kl, pm_opt_some, pm_opt_none, pm_opt_if, Bool.false_eq_true, Bool.not_false, Bool.not_true, if_false, if_true, true_and, and_true, true_or, or_true, not_true_eq_false, not_false_eq_true, q10, q00, q01, q11, pk_v, pk_i, pk_l, pk_r]
        show pm_V X (d' + 45 + 4) 157 26 _ _ _ _
        rw [pre]
        refine Eq.mpr (hM' _) ?_
        rfl
  · exact Pair_q (v := .int (-1)) hR ⟨I, sfr_rf, K50 fun d' => by { show pm_V X (d' + 49) 14 0 [some (.ref 0), some (.int a), none, none, none, none, none] [] (pm_S0 ++ g, I, J) _; simp only [e_B_reach_0, e_B_reach_1, e_B_reach_4, e_B_reach_7, e_B_reach_8, e_B_reach_9, e_B_reach_10, e_B_reach_11, e_B_reach_12, e_B_reach_13, e_B_reach_14, e_B_reach_16, e_B_reach_17, e_B_reach_20, e_B_reach_21, e_B_reach_22, e_B_reach_23, e_B_reach_26, e_B_reach_27, e_B_reach_28, e_B_reach_29, e_B_reach_30, e_B_reach_31, e_B_reach_32, e_B_reach_35, e_B_reach_37, e_B_reach_38, e_B_reach_40, e_B_reach_41, e_B_reach_43, e_B_reach_44, e_B_reach_46, e_B_reach_48, e_B_reach_50, e_B_reach_53, e_B_reach_55, e_B_reach_57, e_B_reach_58, e_B_reach_61, e_B_reach_63, e_B_reach_64, e_B_reach_66, e_B_reach_67, e_B_reach_69, e_B_reach_72, e_B_reach_73, e_B_reach_74, e_B_reach_76, e_B_reach_79, e_B_reach_82, e_B_reach_84, K_B_isCell, K_B_isWithin, K_B_isTape, K_B_isKind, eq_false ha, pm_opt_some, pm_opt_none, pm_opt_if, Bool.false_eq_true, Bool.not_false, Bool.not_true, if_false, if_true, true_and, and_true, true_or, or_true, not_true_eq_false, not_false_eq_true, q10, q00, q01, q11, pk_v, pk_i, pk_l, pk_r] }⟩ (fun I1 h1 hR1 => ⟨I1, sfr_rf, K50 fun d' => by { show pm_V X (d' + 49) 157 0 [some (.ref 82), some (.int a), none, none, none] [] (pm_S0 ++ g, I1, J) _; simp only [e_M_reach_0, e_M_reach_1, e_M_reach_2, e_M_reach_5, e_M_reach_8, e_M_reach_9, e_M_reach_10, e_M_reach_11, e_M_reach_12, e_M_reach_15, e_M_reach_16, e_M_reach_17, e_M_reach_18, e_M_reach_21, e_M_reach_22, e_M_reach_23, e_M_reach_26, e_M_reach_27, e_M_reach_28, e_M_reach_29, e_M_reach_31, e_M_reach_34, e_M_reach_35, e_M_reach_38, e_M_reach_39, e_M_reach_40, e_M_reach_41, e_M_reach_44, e_M_reach_45, e_M_reach_46, e_M_reach_47, e_M_reach_50, e_M_reach_51, e_M_reach_52, e_M_reach_53, e_M_reach_54, e_M_reach_57, e_M_reach_60, e_M_reach_61, e_M_reach_64, e_M_reach_65, e_M_reach_66, e_M_reach_69, e_M_reach_72, e_M_reach_73, e_M_reach_74, e_M_reach_75, e_M_reach_77, e_M_reach_80, e_M_reach_81, e_M_reach_82, e_M_reach_83, e_M_reach_85, e_M_reach_88, e_M_reach_89, e_M_reach_92, e_M_reach_93, e_M_reach_94, e_M_reach_95, e_M_reach_98, e_M_reach_101, e_M_reach_102, e_M_reach_103, e_M_reach_104, e_M_reach_107, e_M_reach_110, e_M_reach_111, e_M_reach_112, e_M_reach_113, e_M_reach_115, e_M_reach_117, e_M_reach_119, e_M_reach_122, e_M_reach_124, e_M_reach_125, e_M_reach_128, e_M_reach_129, e_M_reach_132, e_M_reach_134, e_M_reach_135, e_M_reach_138, e_M_reach_139, e_M_reach_140, e_M_reach_142, e_M_reach_145, e_M_reach_148, e_M_reach_149, e_M_reach_151, e_M_reach_152, e_M_reach_155, e_M_reach_157, e_M_reach_158, e_M_reach_159, e_M_reach_160, e_M_reach_163, e_M_reach_166, e_M_reach_167, e_M_reach_170, e_M_reach_172, e_M_reach_173, e_M_reach_174, e_M_reach_175, e_M_reach_176, e_M_reach_179, e_M_reach_182, e_M_reach_185, e_M_reach_188, e_M_reach_191, e_M_reach_194, e_M_reach_196, sh_o_82, K_M_isCell, K_M_in, K_M_isTape, eq_false ha, pm_opt_some, pm_opt_none, pm_opt_if, Bool.false_eq_true, Bool.not_false, Bool.not_true, if_false, if_true, true_and, and_true, true_or, or_true, not_true_eq_false, not_false_eq_true, q10, q00, q01, q11, pk_v, pk_i, pk_l, pk_r] }⟩)
end P57
