/-! pairs of calls: shift, go, feed -/
section P47
variable {X : pm_X} {d : Nat} {P Q : pm_O → Prop} {g : List pm_S} {S : List pm_S} {I I' I1 B : Nat → Nat → Int32} {J J' : Nat → Nat → Int64} {j w t l : Nat} {c a b s n k i : Int32} {v : Int64} {fi : Int32} {p : Nat → Int32} {T : Nat → T3}
theorem V_T_hasPart (ht : t < 6) : ∀ (d : Nat) (Q : pm_O → Prop), pm_V X d 85 0 [some (.ref (70 + 2 * t)), some (.int i), some (.int n)] [] (pm_S0 ++ g, I, J) Q = if (0 ≤ n ∧ 0 ≤ i) ∧ n ≤ I (70 + 2 * t) 1 ∧ i ≤ I (70 + 2 * t) 1 - n then Q (some (.int 1), (pm_S0 ++ g, I, J)) else Q (some (.int 0), (pm_S0 ++ g, I, J)) := by
  intro d Q
  by_cases q1 : 0 ≤ n
  · have q1' : ¬ n < 0 := Int32.not_lt.mpr q1
    by_cases q2 : 0 ≤ i
    · have q2' : ¬ i < 0 := Int32.not_lt.mpr q2
      by_cases q3 : n ≤ I (70 + 2 * t) 1
      · have q3' : ¬ I (70 + 2 * t) 1 < n := Int32.not_lt.mpr q3
        by_cases q4 : i ≤ I (70 + 2 * t) 1 - n
        · have q4' : ¬ I (70 + 2 * t) 1 - n < i := Int32.not_lt.mpr q4
          simp only [e_T_hasPart_0, e_T_hasPart_1, e_T_hasPart_4, e_T_hasPart_5, e_T_hasPart_8, e_T_hasPart_9, e_T_hasPart_10, e_T_hasPart_13, e_T_hasPart_16, e_T_hasPart_17, e_T_hasPart_18, e_T_hasPart_21, e_T_hasPart_22, e_T_hasPart_23, e_T_hasPart_26, e_T_hasPart_27, e_T_hasPart_30, e_T_hasPart_31, tp_o ht, q1, q2, q3, q4, q1', q2', q3', q4', and_self, pm_opt_some, pm_opt_none, pm_opt_if, Bool.false_eq_true, Bool.not_false, Bool.not_true, if_false, if_true, true_and, and_true, true_or, or_true, not_true_eq_false, not_false_eq_true, q10, q00, q01, q11, pk_v, pk_i, pk_l, pk_r]
        · have q4' : I (70 + 2 * t) 1 - n < i := Int32.not_le.mp q4
          simp only [e_T_hasPart_0, e_T_hasPart_1, e_T_hasPart_4, e_T_hasPart_5, e_T_hasPart_8, e_T_hasPart_9, e_T_hasPart_10, e_T_hasPart_13, e_T_hasPart_16, e_T_hasPart_17, e_T_hasPart_18, e_T_hasPart_21, e_T_hasPart_22, e_T_hasPart_23, e_T_hasPart_26, e_T_hasPart_27, e_T_hasPart_30, e_T_hasPart_31, tp_o ht, q1, q2, q3, q4, q1', q2', q3', q4', and_self, and_false, pm_opt_some, pm_opt_none, pm_opt_if, Bool.false_eq_true, Bool.not_false, Bool.not_true, if_false, if_true, true_and, and_true, true_or, or_true, not_true_eq_false, not_false_eq_true, q10, q00, q01, q11, pk_v, pk_i, pk_l, pk_r]
      · have q3' : I (70 + 2 * t) 1 < n := Int32.not_le.mp q3
        simp only [e_T_hasPart_0, e_T_hasPart_1, e_T_hasPart_4, e_T_hasPart_5, e_T_hasPart_8, e_T_hasPart_9, e_T_hasPart_10, e_T_hasPart_13, e_T_hasPart_16, e_T_hasPart_17, e_T_hasPart_18, e_T_hasPart_21, e_T_hasPart_22, e_T_hasPart_23, e_T_hasPart_26, e_T_hasPart_27, e_T_hasPart_30, e_T_hasPart_31, tp_o ht, q1, q2, q3, q1', q2', q3', false_and, and_false, pm_opt_some, pm_opt_none, pm_opt_if, Bool.false_eq_true, Bool.not_false, Bool.not_true, if_false, if_true, true_and, and_true, true_or, or_true, not_true_eq_false, not_false_eq_true, q10, q00, q01, q11, pk_v, pk_i, pk_l, pk_r]
    · have q2' : i < 0 := Int32.not_le.mp q2
      simp only [e_T_hasPart_0, e_T_hasPart_1, e_T_hasPart_4, e_T_hasPart_5, e_T_hasPart_8, e_T_hasPart_9, e_T_hasPart_10, e_T_hasPart_13, e_T_hasPart_16, e_T_hasPart_17, e_T_hasPart_18, e_T_hasPart_21, e_T_hasPart_22, e_T_hasPart_23, e_T_hasPart_26, e_T_hasPart_27, e_T_hasPart_30, e_T_hasPart_31, tp_o ht, q1, q2, q1', q2', false_and, and_false, pm_opt_some, pm_opt_none, pm_opt_if, Bool.false_eq_true, Bool.not_false, Bool.not_true, if_false, if_true, true_and, and_true, true_or, or_true, not_true_eq_false, not_false_eq_true, q10, q00, q01, q11, pk_v, pk_i, pk_l, pk_r]
  · have q1' : n < 0 := Int32.not_le.mp q1
    simp only [e_T_hasPart_0, e_T_hasPart_1, e_T_hasPart_4, e_T_hasPart_5, e_T_hasPart_8, e_T_hasPart_9, e_T_hasPart_10, e_T_hasPart_13, e_T_hasPart_16, e_T_hasPart_17, e_T_hasPart_18, e_T_hasPart_21, e_T_hasPart_22, e_T_hasPart_23, e_T_hasPart_26, e_T_hasPart_27, e_T_hasPart_30, e_T_hasPart_31, tp_o ht, q1, q1', false_and, pm_opt_some, pm_opt_none, pm_opt_if, Bool.false_eq_true, Bool.not_false, Bool.not_true, if_false, if_true, true_and, and_true, true_or, or_true, not_true_eq_false, not_false_eq_true, q10, q00, q01, q11, pk_v, pk_i, pk_l, pk_r]
theorem K_T_hasPart (ht : t < 6) : pm_cl X (d + 1) 85 [.ref (70 + 2 * t), .int i, .int n] (pm_S0 ++ g, I, J) P = if (0 ≤ n ∧ 0 ≤ i) ∧ n ≤ I (70 + 2 * t) 1 ∧ i ≤ I (70 + 2 * t) 1 - n then P (some (.int 1), (pm_S0 ++ g, I, J)) else P (some (.int 0), (pm_S0 ++ g, I, J)) := by
  refine K_if (k := 0) (fun hq d' => ?_) (fun hq d' => ?_)
  · show pm_V X d' 85 0 [some (.ref (70 + 2 * t)), some (.int i), some (.int n)] [] (pm_S0 ++ g, I, J) _
    rw [V_T_hasPart ht, if_pos hq]
  · show pm_V X d' 85 0 [some (.ref (70 + 2 * t)), some (.int i), some (.int n)] [] (pm_S0 ++ g, I, J) _
    rw [V_T_hasPart ht, if_neg hq]
def shJ (f : Nat → Int64) (a b n : Nat) : Nat → Int64 := fun q => if b ≤ q ∧ q < b + n then f (a + (q - b)) else f q
theorem M_shift_1 {u o m jj : Nat} (ht : t < 6) (hu : u + m ≤ 60) (hm : m ≤ 60) : ∀ (d : Nat) (Q : pm_O → Prop), pm_V X d 191 104 [some (.ref 82), some (.int (nI t)), some (.int (nI u)), some (.int (nI o)), some (.int (nI jj)), some (.int (nI m)), some (.int 0)] [] (pm_S0 ++ g, I, J) Q = pm_V X d 191 138 [some (.ref 82), some (.int (nI t)), some (.int (nI u)), some (.int (nI o)), some (.int (nI jj)), some (.int (nI m)), some (.int (nI m))] [] (pm_S0 ++ g, I, pm_upJ J 122 (fun q => if q < m then J 121 (60 * t + u + q) else J 122 q)) Q := by
  intro d Q
  have m60 : (60 : Int32) * nI t = nI (60 * t) := pk_mul 60 t
  have L := pm_lp0 (fun k => pm_V X d 191 104 [some (.ref 82), some (.int (nI t)), some (.int (nI u)), some (.int (nI o)), some (.int (nI jj)), some (.int (nI m)), some (.int (nI k))] [] (pm_S0 ++ g, I, pm_upJ J 122 (fun q => if q < k then J 121 (60 * t + u + q) else J 122 q)) Q) m (by
    intro k hk
    have h1 : (nI m ≤ nI k) = False := by
      rw [nI_le_l (by omega) (by omega)]
      exact eq_false (by omega)
    have b1 := bad_nI (k := 60 * t + u + k) (n := 360) (by omega) (by decide)
    have c1 := nI_clamp (n := 60 * t + u + k) (by omega)
    have b2 := bad_nI (k := k) (n := 60) (by omega) (by decide)
    have c2 := nI_clamp (n := k) (by omega)
    have e1 : pm_upJ J 122 (fun q => if q < k then J 121 (60 * t + u + q) else J 122 q) 121 = J 121 := by
      unfold pm_upJ
      rw [if_neg (by decide)]
    show pm_V X d 191 104 [some (.ref 82), some (.int (nI t)), some (.int (nI u)), some (.int (nI o)), some (.int (nI jj)), some (.int (nI m)), some (.int (nI k))] [] (pm_S0 ++ g, I, pm_upJ J 122 (fun q => if q < k then J 121 (60 * t + u + q) else J 122 q)) Q = _
    rw [e_M_shift_104]
    simp only [e_M_shift_0, e_M_shift_1, e_M_shift_2, e_M_shift_5, e_M_shift_8, e_M_shift_9, e_M_shift_10, e_M_shift_13, e_M_shift_16, e_M_shift_17, e_M_shift_18, e_M_shift_19, e_M_shift_22, e_M_shift_23, e_M_shift_24, e_M_shift_27, e_M_shift_28, e_M_shift_31, e_M_shift_32, e_M_shift_33, e_M_shift_36, e_M_shift_38, e_M_shift_39, e_M_shift_40, e_M_shift_43, e_M_shift_44, e_M_shift_45, e_M_shift_46, e_M_shift_49, e_M_shift_50, e_M_shift_51, e_M_shift_54, e_M_shift_56, e_M_shift_57, e_M_shift_59, e_M_shift_62, e_M_shift_63, e_M_shift_66, e_M_shift_68, e_M_shift_71, e_M_shift_72, e_M_shift_73, e_M_shift_76, e_M_shift_77, e_M_shift_78, e_M_shift_80, e_M_shift_81, e_M_shift_84, e_M_shift_86, e_M_shift_87, e_M_shift_90, e_M_shift_91, e_M_shift_92, e_M_shift_94, e_M_shift_95, e_M_shift_98, e_M_shift_100, e_M_shift_101, e_M_shift_102, e_M_shift_106, e_M_shift_108, e_M_shift_111, e_M_shift_112, e_M_shift_115, e_M_shift_117, e_M_shift_118, e_M_shift_121, e_M_shift_123, e_M_shift_124, e_M_shift_125, e_M_shift_126, e_M_shift_127, e_M_shift_129, e_M_shift_130, e_M_shift_131, e_M_shift_132, e_M_shift_135, e_M_shift_139, e_M_shift_141, e_M_shift_143, e_M_shift_145, e_M_shift_148, e_M_shift_149, e_M_shift_152, e_M_shift_154, e_M_shift_155, e_M_shift_156, e_M_shift_158, e_M_shift_159, e_M_shift_161, e_M_shift_162, e_M_shift_163, e_M_shift_166, e_M_shift_168, e_M_shift_169, e_M_shift_170, e_M_shift_173, e_M_shift_176, e_M_shift_178, h1, sh_r_82_57, sh_r_82_58, sh_i_121, sh_w_122, m60, nI_add, b1, c1, b2, c2, e1, nI_1, pm_opt_some, pm_opt_none, pm_opt_if, Bool.false_eq_true, Bool.not_false, Bool.not_true, if_false, if_true, true_and, and_true, true_or, or_true, not_true_eq_false, not_false_eq_true, q10, q00, q01, q11, pk_v, pk_i, pk_l, pk_r]
    have e : pm_wJ (pm_upJ J 122 (fun q => if q < k then J 121 (60 * t + u + q) else J 122 q)) 122 k (J 121 (60 * t + u + k)) = pm_upJ J 122 (fun q => if q < k + 1 then J 121 (60 * t + u + q) else J 122 q) := by
      funext q i
      unfold pm_wJ pm_upJ vp_updL
      by_cases h : q = 122
      · simp only [h, if_true]
        by_cases h2 : i = k
        · subst h2
          rw [if_pos rfl, if_pos (by omega)]
        · have : (i < k + 1) = (i < k) := propext (by omega)
          simp only [h2, if_false, this]
      · simp only [h, if_false]
    rw [e]) m 0 (by omega)
  have e0 : pm_upJ J 122 (fun q => if q < 0 then J 121 (60 * t + u + q) else J 122 q) = J := by
    funext q i
    unfold pm_upJ
    by_cases h : q = 122
    · rw [if_pos h, if_neg (by omega), h]
    · rw [if_neg h]
  rw [e0, nI_0] at L
  rw [L, e_M_shift_104]
  simp only [e_M_shift_106, e_M_shift_108, Int32.le_refl, if_true]
theorem M_shift_2 {u o m jj : Nat} (ho : o < 6) (hj : jj + m ≤ 60) (hm : m ≤ 60) : ∀ (d : Nat) (Q : pm_O → Prop), pm_V X d 191 141 [some (.ref 82), some (.int (nI t)), some (.int (nI u)), some (.int (nI o)), some (.int (nI jj)), some (.int (nI m)), some (.int 0)] [] (pm_S0 ++ g, I, J) Q = Q (some (.int (nI m)), (pm_S0 ++ g, I, pm_upJ J 121 (fun q => if 60 * o + jj ≤ q ∧ q < 60 * o + jj + m then J 122 (q - (60 * o + jj)) else J 121 q))) := by
  intro d Q
  have m60 : (60 : Int32) * nI o = nI (60 * o) := pk_mul 60 o
  have L := pm_lp0 (fun k => pm_V X d 191 141 [some (.ref 82), some (.int (nI t)), some (.int (nI u)), some (.int (nI o)), some (.int (nI jj)), some (.int (nI m)), some (.int (nI k))] [] (pm_S0 ++ g, I, pm_upJ J 121 (fun q => if 60 * o + jj ≤ q ∧ q < 60 * o + jj + k then J 122 (q - (60 * o + jj)) else J 121 q)) Q) m (by
    intro k hk
    have h1 : (nI m ≤ nI k) = False := by
      rw [nI_le_l (by omega) (by omega)]
      exact eq_false (by omega)
    have b1 := bad_nI (k := 60 * o + jj + k) (n := 360) (by omega) (by decide)
    have c1 := nI_clamp (n := 60 * o + jj + k) (by omega)
    have b2 := bad_nI (k := k) (n := 60) (by omega) (by decide)
    have c2 := nI_clamp (n := k) (by omega)
    have e1 : pm_upJ J 121 (fun q => if 60 * o + jj ≤ q ∧ q < 60 * o + jj + k then J 122 (q - (60 * o + jj)) else J 121 q) 122 = J 122 := by
      unfold pm_upJ
      rw [if_neg (by decide)]
    show pm_V X d 191 141 [some (.ref 82), some (.int (nI t)), some (.int (nI u)), some (.int (nI o)), some (.int (nI jj)), some (.int (nI m)), some (.int (nI k))] [] (pm_S0 ++ g, I, pm_upJ J 121 (fun q => if 60 * o + jj ≤ q ∧ q < 60 * o + jj + k then J 122 (q - (60 * o + jj)) else J 121 q)) Q = _
    rw [e_M_shift_141]
    simp only [e_M_shift_0, e_M_shift_1, e_M_shift_2, e_M_shift_5, e_M_shift_8, e_M_shift_9, e_M_shift_10, e_M_shift_13, e_M_shift_16, e_M_shift_17, e_M_shift_18, e_M_shift_19, e_M_shift_22, e_M_shift_23, e_M_shift_24, e_M_shift_27, e_M_shift_28, e_M_shift_31, e_M_shift_32, e_M_shift_33, e_M_shift_36, e_M_shift_38, e_M_shift_39, e_M_shift_40, e_M_shift_43, e_M_shift_44, e_M_shift_45, e_M_shift_46, e_M_shift_49, e_M_shift_50, e_M_shift_51, e_M_shift_54, e_M_shift_56, e_M_shift_57, e_M_shift_59, e_M_shift_62, e_M_shift_63, e_M_shift_66, e_M_shift_68, e_M_shift_71, e_M_shift_72, e_M_shift_73, e_M_shift_76, e_M_shift_77, e_M_shift_78, e_M_shift_80, e_M_shift_81, e_M_shift_84, e_M_shift_86, e_M_shift_87, e_M_shift_90, e_M_shift_91, e_M_shift_92, e_M_shift_94, e_M_shift_95, e_M_shift_98, e_M_shift_100, e_M_shift_101, e_M_shift_102, e_M_shift_104, e_M_shift_106, e_M_shift_108, e_M_shift_111, e_M_shift_112, e_M_shift_115, e_M_shift_117, e_M_shift_118, e_M_shift_121, e_M_shift_123, e_M_shift_124, e_M_shift_125, e_M_shift_126, e_M_shift_127, e_M_shift_129, e_M_shift_130, e_M_shift_131, e_M_shift_132, e_M_shift_135, e_M_shift_138, e_M_shift_139, e_M_shift_143, e_M_shift_145, e_M_shift_148, e_M_shift_149, e_M_shift_152, e_M_shift_154, e_M_shift_155, e_M_shift_156, e_M_shift_158, e_M_shift_159, e_M_shift_161, e_M_shift_162, e_M_shift_163, e_M_shift_166, e_M_shift_168, e_M_shift_169, e_M_shift_170, e_M_shift_173, e_M_shift_176, e_M_shift_178, h1, sh_r_82_57, sh_r_82_58, sh_i_122, sh_w_121, m60, nI_add, b1, c1, b2, c2, e1, nI_1, pm_opt_some, pm_opt_none, pm_opt_if, Bool.false_eq_true, Bool.not_false, Bool.not_true, if_false, if_true, true_and, and_true, true_or, or_true, not_true_eq_false, not_false_eq_true, q10, q00, q01, q11, pk_v, pk_i, pk_l, pk_r]
    have e : pm_wJ (pm_upJ J 121 (fun q => if 60 * o + jj ≤ q ∧ q < 60 * o + jj + k then J 122 (q - (60 * o + jj)) else J 121 q)) 121 (60 * o + jj + k) (J 122 k) = pm_upJ J 121 (fun q => if 60 * o + jj ≤ q ∧ q < 60 * o + jj + (k + 1) then J 122 (q - (60 * o + jj)) else J 121 q) := by
      funext q i
      unfold pm_wJ pm_upJ vp_updL
      by_cases h : q = 121
      · simp only [h, if_true]
        by_cases h2 : i = 60 * o + jj + k
        · subst h2
          rw [if_pos rfl, if_pos (by omega), show 60 * o + jj + k - (60 * o + jj) = k by omega]
        · have : (60 * o + jj ≤ i ∧ i < 60 * o + jj + (k + 1)) = (60 * o + jj ≤ i ∧ i < 60 * o + jj + k) := propext (by omega)
          simp only [h2, if_false, this]
      · simp only [h, if_false]
    rw [e]) m 0 (by omega)
  have e0 : pm_upJ J 121 (fun q => if 60 * o + jj ≤ q ∧ q < 60 * o + jj + 0 then J 122 (q - (60 * o + jj)) else J 121 q) = J := by
    funext q i
    unfold pm_upJ
    by_cases h : q = 121
    · rw [if_pos h, if_neg (by omega), h]
    · rw [if_neg h]
  rw [e0, nI_0] at L
  rw [L, e_M_shift_141]
  simp only [e_M_shift_143, e_M_shift_145, e_M_shift_176, e_M_shift_178, Int32.le_refl, if_true]
def shJ1 (J : Nat → Nat → Int64) (t o u jj m : Nat) : Nat → Nat → Int64 := pm_upJ J (71 + 2 * o) (va_cpy (J (71 + 2 * t)) (J (71 + 2 * o)) u jj m)
def shJ2 (J : Nat → Nat → Int64) (t u m : Nat) : Nat → Nat → Int64 := pm_upJ J 122 (fun q => if q < m then J 121 (60 * t + u + q) else J 122 q)
def shJ3 (J : Nat → Nat → Int64) (o jj m : Nat) : Nat → Nat → Int64 := pm_upJ J 121 (fun q => if 60 * o + jj ≤ q ∧ q < 60 * o + jj + m then J 122 (q - (60 * o + jj)) else J 121 q)
theorem RT_shift {o m u jj : Nat} (hR : RT I J) (ht : t < 6) (ho : o < 6) (hu : u + m ≤ 60) (hj : jj + m ≤ 60) : RT I (shJ3 (shJ2 (shJ1 J t o u jj m) t u m) o jj m) := by
  intro r hr
  obtain ⟨h1, h2, h3, h4, h5⟩ := hR r hr
  obtain ⟨_, _, _, _, h5t⟩ := hR t ht
  refine ⟨h1, h2, h3, h4, fun k hk => ?_⟩
  have n5 : ¬ 71 + 2 * r = 121 := by omega
  have n6 : ¬ 71 + 2 * r = 122 := by omega
  have n7 : ¬ 121 = 71 + 2 * o := by omega
  have a1 : ∀ q, shJ1 J t o u jj m 121 q = J 121 q := fun q => by
    unfold shJ1 pm_upJ
    rw [if_neg n7]
  have a2 : ∀ q, q < m → shJ2 (shJ1 J t o u jj m) t u m 122 q = J 121 (60 * t + u + q) := fun q hq => by
    unfold shJ2 pm_upJ
    rw [if_pos rfl, if_pos hq, a1]
  have a3 : ∀ q, shJ2 (shJ1 J t o u jj m) t u m 121 q = J 121 q := fun q => by
    unfold shJ2 pm_upJ
    rw [if_neg (by decide), a1]
  have a4 : shJ3 (shJ2 (shJ1 J t o u jj m) t u m) o jj m (71 + 2 * r) k = shJ1 J t o u jj m (71 + 2 * r) k := by
    unfold shJ3 shJ2 pm_upJ
    rw [if_neg n5, if_neg n6]
  rw [a4]
  by_cases e : r = o
  · subst e
    have a5 : shJ1 J t r u jj m (71 + 2 * r) k = va_cpy (J (71 + 2 * t)) (J (71 + 2 * r)) u jj m k := by
      unfold shJ1 pm_upJ
      rw [if_pos rfl]
    rw [a5]
    unfold va_cpy
    by_cases q : jj ≤ k ∧ k < jj + m
    · rw [if_pos q]
      have a6 : shJ3 (shJ2 (shJ1 J t r u jj m) t u m) r jj m 121 (60 * r + k) = J 121 (60 * t + u + (60 * r + k - (60 * r + jj))) := by
        unfold shJ3
        unfold pm_upJ
        rw [if_pos rfl, if_pos (by omega), a2 _ (by omega)]
      rw [a6, ← h5t (u + (k - jj)) (by omega)]
      exact congrArg (J 121) (by omega)
    · rw [if_neg q]
      have a6 : shJ3 (shJ2 (shJ1 J t r u jj m) t u m) r jj m 121 (60 * r + k) = J 121 (60 * r + k) := by
        unfold shJ3
        unfold pm_upJ
        rw [if_pos rfl, if_neg (by omega), a3]
      rw [a6]
      exact h5 k hk
  · have a5 : shJ1 J t o u jj m (71 + 2 * r) k = J (71 + 2 * r) k := by
      unfold shJ1 pm_upJ
      rw [if_neg (by omega)]
    have a6 : shJ3 (shJ2 (shJ1 J t o u jj m) t u m) o jj m 121 (60 * r + k) = J 121 (60 * r + k) := by
      unfold shJ3
      unfold pm_upJ
      rw [if_pos rfl, if_neg (by omega), a3]
    rw [a5, a6]
    exact h5 k hk
/-- a part that ends within a tape is no longer than the tape -/
theorem len_sub {L : Int32} (hl : l ≤ 60) (hL : L = nI l) (hn : ¬ n < 0) (hi : ¬ i < 0) (h : i ≤ L - n) : n ≤ L := by
  subst hL
  obtain ⟨m, hm, rfl⟩ := nI_of hn
  obtain ⟨u, hu, rfl⟩ := nI_of hi
  have em : (nI m).toInt = m := nI_toInt hm
  have el : (nI l).toInt = l := nI_toInt (by omega)
  have e : (nI l - nI m).toInt = (l : Int) - m := by rw [i_sub (by omega) (by omega), em, el]
  rw [i_le, e, nI_toInt hu] at h
  rw [i_le, nI_toInt (by omega), nI_toInt (by omega)]
  omega
theorem Rel_JJ {J1 : Nat → Nat → Int64} (hR : Rel I J) (h : RT I J1) : Rel I J1 := Rel_J hR h
theorem Pair_shift (hR : Rel I J) : Pair X 35 191 [.int a, .int i, .int b, .int c, .int n] g I J := by
  by_cases ha : 0 ≤ a ∧ a ≤ 5
  · by_cases hb : 0 ≤ b ∧ b ≤ 5
    · obtain ⟨t, ht, rfl⟩ := in_of (m := 5) rfl ha
      obtain ⟨o, ho, rfl⟩ := in_of (m := 5) rfl hb
      have ht' : t < 6 := by omega
      have ho' : o < 6 := by omega
      have bt := bad_nI (k := t) (n := 6) ht' (by decide)
      have ct := nI_clamp (n := t) (by omega)
      have bo := bad_nI (k := o) (n := 6) ho' (by decide)
      have co := nI_clamp (n := o) (by omega)
      obtain ⟨e1, e2, ⟨l, hl, e3⟩, e4, e5⟩ := hR.2.2.2.2.2.2.2 t ht'
      obtain ⟨f1, f2, ⟨lo, hlo, f3⟩, f4, f5⟩ := hR.2.2.2.2.2.2.2 o ho'
      have r1 : ∀ u, u < 6 → ∀ I1, sfr I I1 → Rel I1 J → I1 119 u = I (70 + 2 * u) 0 := fun u hu I1 h1 hR1 => by rw [(hR1.2.2.2.2.2.2.2 u hu).1, sfr_at h1 (by unfold SL; simp; omega)]
      have r2 : ∀ u, u < 6 → ∀ I1, sfr I I1 → Rel I1 J → I1 120 u = I (70 + 2 * u) 1 := fun u hu I1 h1 hR1 => by rw [(hR1.2.2.2.2.2.2.2 u hu).2.1, sfr_at h1 (by unfold SL; simp; omega)]
      have neg : ∀ x : Int32, (x = -1 ∨ ∃ s, s ≤ 4 ∧ x = nI s) → (x < 0) = (x = -1) ∧ ((0 : Int32) ≤ x) = ¬ x = -1 := by
        intro x hx
        rcases hx with rfl | ⟨s, hs, rfl⟩
        · exact ⟨by decide, by decide⟩
        · have q1 : ¬ nI s = -1 := fun e => by
            rw [i_eq, nI_toInt (by omega), show (-1 : Int32).toInt = -1 from rfl] at e
            omega
          exact ⟨propext ⟨fun z => absurd z (nI_pos (by omega)), fun z => absurd z q1⟩, propext ⟨fun _ => q1, fun _ => nI_pos' (by omega)⟩⟩
      have e4' := neg _ (e4.imp (fun z => z.1) id)
      have f4' := neg _ (f4.imp (fun z => z.1) id)
      by_cases q1 : I (70 + 2 * t) 0 = -1
      · refine Pair_q (v := .int (-11)) hR ⟨I, sfr_rf, K50 fun d' => ?_⟩ (fun I1 h1 hR1 => ⟨I1, sfr_rf, K50 fun d' => ?_⟩)
        · show pm_V X (d' + 49) 35 0 [some (.ref 0), some (.int (nI t)), some (.int i), some (.int (nI o)), some (.int c), some (.int n), none, none] [] (pm_S0 ++ g, I, J) _
          simp only [e_B_shift_0, e_B_shift_1, e_B_shift_4, e_B_shift_7, e_B_shift_8, e_B_shift_11, e_B_shift_14, e_B_shift_15, e_B_shift_16, e_B_shift_17, e_B_shift_20, e_B_shift_21, e_B_shift_22, e_B_shift_24, e_B_shift_25, e_B_shift_28, e_B_shift_29, e_B_shift_30, e_B_shift_32, e_B_shift_34, e_B_shift_37, e_B_shift_38, e_B_shift_41, e_B_shift_43, e_B_shift_46, e_B_shift_47, e_B_shift_50, e_B_shift_52, e_B_shift_53, e_B_shift_55, e_B_shift_58, e_B_shift_60, e_B_shift_63, e_B_shift_66, e_B_shift_68, e_B_shift_69, e_B_shift_71, e_B_shift_72, e_B_shift_74, e_B_shift_77, e_B_shift_80, e_B_shift_82, e_B_shift_84, e_B_shift_86, e_B_shift_89, e_B_shift_92, e_B_shift_94, e_B_shift_95, e_B_shift_97, e_B_shift_100, e_B_shift_101, e_B_shift_103, e_B_shift_106, e_B_shift_108, e_B_shift_110, e_B_shift_113, e_B_shift_115, K_B_isTape, eq_true ha, eq_true hb, sh_r_0_8, tp_a ht', tp_a ho', tp_o ht', tp_o ho', q1, pm_opt_some, pm_opt_none, pm_opt_if, Bool.false_eq_true, Bool.not_false, Bool.not_true, if_false, if_true, true_and, and_true, true_or, or_true, not_true_eq_false, not_false_eq_true, q10, q00, q01, q11, pk_v, pk_i, pk_l, pk_r]
        · show pm_V X (d' + 49) 191 0 [some (.ref 82), some (.int (nI t)), some (.int i), some (.int (nI o)), some (.int c), some (.int n), none] [] (pm_S0 ++ g, I1, J) _
          simp only [e_M_shift_0, e_M_shift_1, e_M_shift_2, e_M_shift_5, e_M_shift_8, e_M_shift_9, e_M_shift_10, e_M_shift_13, e_M_shift_16, e_M_shift_17, e_M_shift_18, e_M_shift_19, e_M_shift_22, e_M_shift_23, e_M_shift_24, e_M_shift_27, e_M_shift_28, e_M_shift_31, e_M_shift_32, e_M_shift_33, e_M_shift_36, e_M_shift_38, e_M_shift_39, e_M_shift_40, e_M_shift_43, e_M_shift_44, e_M_shift_45, e_M_shift_46, e_M_shift_49, e_M_shift_50, e_M_shift_51, e_M_shift_54, e_M_shift_56, e_M_shift_57, e_M_shift_59, e_M_shift_62, e_M_shift_63, e_M_shift_66, e_M_shift_68, e_M_shift_71, e_M_shift_72, e_M_shift_73, e_M_shift_76, e_M_shift_77, e_M_shift_78, e_M_shift_80, e_M_shift_81, e_M_shift_84, e_M_shift_86, e_M_shift_87, e_M_shift_90, e_M_shift_91, e_M_shift_92, e_M_shift_94, e_M_shift_95, e_M_shift_98, e_M_shift_100, e_M_shift_101, e_M_shift_102, e_M_shift_104, e_M_shift_106, e_M_shift_108, e_M_shift_111, e_M_shift_112, e_M_shift_115, e_M_shift_117, e_M_shift_118, e_M_shift_121, e_M_shift_123, e_M_shift_124, e_M_shift_125, e_M_shift_126, e_M_shift_127, e_M_shift_129, e_M_shift_130, e_M_shift_131, e_M_shift_132, e_M_shift_135, e_M_shift_138, e_M_shift_139, e_M_shift_141, e_M_shift_143, e_M_shift_145, e_M_shift_148, e_M_shift_149, e_M_shift_152, e_M_shift_154, e_M_shift_155, e_M_shift_156, e_M_shift_158, e_M_shift_159, e_M_shift_161, e_M_shift_162, e_M_shift_163, e_M_shift_166, e_M_shift_168, e_M_shift_169, e_M_shift_170, e_M_shift_173, e_M_shift_176, e_M_shift_178, sh_o_82, K_M_isTape, eq_true ha, eq_true hb, sh_r_82_55, sh_i_119, bt, ct, r1 t ht' I1 h1 hR1, q1, show ((-1 : Int32) < 0) = True by decide, pm_opt_some, pm_opt_none, pm_opt_if, Bool.false_eq_true, Bool.not_false, Bool.not_true, if_false, if_true, true_and, and_true, true_or, or_true, not_true_eq_false, not_false_eq_true, q10, q00, q01, q11, pk_v, pk_i, pk_l, pk_r]
      · by_cases q2 : I (70 + 2 * o) 0 = -1
        · refine Pair_q (v := .int (-11)) hR ⟨I, sfr_rf, K50 fun d' => ?_⟩ (fun I1 h1 hR1 => ⟨I1, sfr_rf, K50 fun d' => ?_⟩)
          · show pm_V X (d' + 49) 35 0 [some (.ref 0), some (.int (nI t)), some (.int i), some (.int (nI o)), some (.int c), some (.int n), none, none] [] (pm_S0 ++ g, I, J) _
            simp only [e_B_shift_0, e_B_shift_1, e_B_shift_4, e_B_shift_7, e_B_shift_8, e_B_shift_11, e_B_shift_14, e_B_shift_15, e_B_shift_16, e_B_shift_17, e_B_shift_20, e_B_shift_21, e_B_shift_22, e_B_shift_24, e_B_shift_25, e_B_shift_28, e_B_shift_29, e_B_shift_30, e_B_shift_32, e_B_shift_34, e_B_shift_37, e_B_shift_38, e_B_shift_41, e_B_shift_43, e_B_shift_46, e_B_shift_47, e_B_shift_50, e_B_shift_52, e_B_shift_53, e_B_shift_55, e_B_shift_58, e_B_shift_60, e_B_shift_63, e_B_shift_66, e_B_shift_68, e_B_shift_69, e_B_shift_71, e_B_shift_72, e_B_shift_74, e_B_shift_77, e_B_shift_80, e_B_shift_82, e_B_shift_84, e_B_shift_86, e_B_shift_89, e_B_shift_92, e_B_shift_94, e_B_shift_95, e_B_shift_97, e_B_shift_100, e_B_shift_101, e_B_shift_103, e_B_shift_106, e_B_shift_108, e_B_shift_110, e_B_shift_113, e_B_shift_115, K_B_isTape, eq_true ha, eq_true hb, sh_r_0_8, tp_a ht', tp_a ho', tp_o ht', tp_o ho', q1, q2, pm_opt_some, pm_opt_none, pm_opt_if, Bool.false_eq_true, Bool.not_false, Bool.not_true, if_false, if_true, true_and, and_true, true_or, or_true, not_true_eq_false, not_false_eq_true, q10, q00, q01, q11, pk_v, pk_i, pk_l, pk_r]
          · have f42 := f4'.2
            simp only [q2, not_true_eq_false] at f42
            show pm_V X (d' + 49) 191 0 [some (.ref 82), some (.int (nI t)), some (.int i), some (.int (nI o)), some (.int c), some (.int n), none] [] (pm_S0 ++ g, I1, J) _
            simp only [e_M_shift_0, e_M_shift_1, e_M_shift_2, e_M_shift_5, e_M_shift_8, e_M_shift_9, e_M_shift_10, e_M_shift_13, e_M_shift_16, e_M_shift_17, e_M_shift_18, e_M_shift_19, e_M_shift_22, e_M_shift_23, e_M_shift_24, e_M_shift_27, e_M_shift_28, e_M_shift_31, e_M_shift_32, e_M_shift_33, e_M_shift_36, e_M_shift_38, e_M_shift_39, e_M_shift_40, e_M_shift_43, e_M_shift_44, e_M_shift_45, e_M_shift_46, e_M_shift_49, e_M_shift_50, e_M_shift_51, e_M_shift_54, e_M_shift_56, e_M_shift_57, e_M_shift_59, e_M_shift_62, e_M_shift_63, e_M_shift_66, e_M_shift_68, e_M_shift_71, e_M_shift_72, e_M_shift_73, e_M_shift_76, e_M_shift_77, e_M_shift_78, e_M_shift_80, e_M_shift_81, e_M_shift_84, e_M_shift_86, e_M_shift_87, e_M_shift_90, e_M_shift_91, e_M_shift_92, e_M_shift_94, e_M_shift_95, e_M_shift_98, e_M_shift_100, e_M_shift_101, e_M_shift_102, e_M_shift_104, e_M_shift_106, e_M_shift_108, e_M_shift_111, e_M_shift_112, e_M_shift_115, e_M_shift_117, e_M_shift_118, e_M_shift_121, e_M_shift_123, e_M_shift_124, e_M_shift_125, e_M_shift_126, e_M_shift_127, e_M_shift_129, e_M_shift_130, e_M_shift_131, e_M_shift_132, e_M_shift_135, e_M_shift_138, e_M_shift_139, e_M_shift_141, e_M_shift_143, e_M_shift_145, e_M_shift_148, e_M_shift_149, e_M_shift_152, e_M_shift_154, e_M_shift_155, e_M_shift_156, e_M_shift_158, e_M_shift_159, e_M_shift_161, e_M_shift_162, e_M_shift_163, e_M_shift_166, e_M_shift_168, e_M_shift_169, e_M_shift_170, e_M_shift_173, e_M_shift_176, e_M_shift_178, sh_o_82, K_M_isTape, eq_true ha, eq_true hb, sh_r_82_55, sh_i_119, bt, ct, bo, co, r1 t ht' I1 h1 hR1, r1 o ho' I1 h1 hR1, e4'.1, q1, f42, q2, pm_opt_some, pm_opt_none, pm_opt_if, Bool.false_eq_true, Bool.not_false, Bool.not_true, if_false, if_true, true_and, and_true, true_or, or_true, not_true_eq_false, not_false_eq_true, q10, q00, q01, q11, pk_v, pk_i, pk_l, pk_r]
        · by_cases q3 : I (70 + 2 * t) 0 = I (70 + 2 * o) 0
          · by_cases q4 : ((0 ≤ n ∧ 0 ≤ i) ∧ n ≤ I (70 + 2 * t) 1 ∧ i ≤ I (70 + 2 * t) 1 - n) ∧ ((0 ≤ n ∧ 0 ≤ c) ∧ n ≤ I (70 + 2 * o) 1 ∧ c ≤ I (70 + 2 * o) 1 - n)
            · obtain ⟨⟨⟨n0, i0⟩, nl, il⟩, ⟨_, c0⟩, nlo, clo⟩ := id q4
              obtain ⟨m, hm, rfl⟩ := nI_of (Int32.not_lt.mpr n0)
              obtain ⟨u, hu, rfl⟩ := nI_of (Int32.not_lt.mpr i0)
              obtain ⟨jj, hjj, rfl⟩ := nI_of (Int32.not_lt.mpr c0)
              have hm60 : m ≤ l := by
                rw [e3, nI_leI hm (by omega)] at nl
                exact nl
              have hmlo : m ≤ lo := by
                rw [f3, nI_leI hm (by omega)] at nlo
                exact nlo
              have hul : u + m ≤ l := by
                rw [e3, pk_sub (by omega), nI_leI hu (by omega)] at il
                omega
              have hjl : jj + m ≤ lo := by
                rw [f3, pk_sub (by omega), nI_leI hjj (by omega)] at clo
                omega
              have cu := nI_clamp (n := u) (by omega)
              have cj := nI_clamp (n := jj) (by omega)
              have cm := nI_clamp (n := m) (by omega)
              have p1 : pm_cpo (pm_S0 ++ g) 1 (71 + 2 * t) (nI u) (71 + 2 * o) (nI jj) (nI m) = false := by
                unfold pm_cpo
                rw [tp_s ht', tp_s ho']
                rfl
              have p2 : pm_cpo (pm_S0 ++ g) 4 (71 + 2 * t) (nI u) (71 + 2 * o) (nI jj) (nI m) = true := by
                unfold pm_cpo
                rw [tp_s ht', tp_s ho']
                simp only [cu, cj, cm, beq_self_eq_true, Bool.true_and, Bool.and_eq_true, Bool.not_eq_true', Bool.or_eq_false_iff, decide_eq_false_iff_not, decide_eq_true_eq]
                exact ⟨⟨⟨⟨nI_pos (by omega), nI_pos (by omega)⟩, nI_pos (by omega)⟩, by omega⟩, by omega⟩
              have nn : ∀ x, x < 2 ^ 31 → (nI x < 0) = False := fun x hx => eq_false (nI_pos hx)
              refine ⟨.int (nI m), g, I, shJ1 J t o u jj m, I, shJ3 (shJ2 (shJ1 J t o u jj m) t u m) o jj m, ?_, Or.inl rfl, rfl, K50 fun d' => ?_, K50 fun d' => ?_⟩
              rotate_left
              · have hd : 2 ≤ d' + 49 := by omega
                show pm_V X (d' + 49) 35 0 [some (.ref 0), some (.int (nI t)), some (.int (nI u)), some (.int (nI o)), some (.int (nI jj)), some (.int (nI m)), none, none] [] (pm_S0 ++ g, I, J) _
                simp only [e_B_shift_0, e_B_shift_1, e_B_shift_4, e_B_shift_7, e_B_shift_8, e_B_shift_11, e_B_shift_14, e_B_shift_15, e_B_shift_16, e_B_shift_17, e_B_shift_20, e_B_shift_21, e_B_shift_22, e_B_shift_24, e_B_shift_25, e_B_shift_28, e_B_shift_29, e_B_shift_30, e_B_shift_32, e_B_shift_34, e_B_shift_37, e_B_shift_38, e_B_shift_41, e_B_shift_43, e_B_shift_46, e_B_shift_47, e_B_shift_50, e_B_shift_52, e_B_shift_53, e_B_shift_55, e_B_shift_58, e_B_shift_60, e_B_shift_63, e_B_shift_66, e_B_shift_68, e_B_shift_69, e_B_shift_71, e_B_shift_72, e_B_shift_74, e_B_shift_77, e_B_shift_80, e_B_shift_82, e_B_shift_84, e_B_shift_86, e_B_shift_89, e_B_shift_92, e_B_shift_94, e_B_shift_95, e_B_shift_97, e_B_shift_100, e_B_shift_101, e_B_shift_103, e_B_shift_106, e_B_shift_108, e_B_shift_110, e_B_shift_113, e_B_shift_115, K_B_isTape, eq_true ha, eq_true hb, sh_r_0_8, tp_a ht', tp_a ho', tp_o ht', tp_o ho', tp_r ht', tp_r ho', q1, q2, q3, K_T_hasPart ht', K_T_hasPart ho', eq_true q4.1, eq_true q4.2, hd, p1, p2, cu, cj, cm, pm_opt_some, pm_opt_none, pm_opt_if, Bool.false_eq_true, Bool.not_false, Bool.not_true, if_false, if_true, true_and, and_true, true_or, or_true, not_true_eq_false, not_false_eq_true, q10, q00, q01, q11, pk_v, pk_i, pk_l, pk_r]
                rfl
              · have g1 : (I (70 + 2 * t) 1 - nI m < nI u) = False := eq_false (Int32.not_lt.mpr il)
                rw [← e1] at q3 e4'
                rw [← f1] at q3
                rw [← e1] at q1
                rw [← f1] at q2 f4'
                rw [← e2] at il
                rw [← f2] at clo
                have n22 : ∀ J : Nat → Nat → Int64, pm_upJ J (71 + 2 * o) (va_cpy (J (71 + 2 * t)) (J (71 + 2 * o)) u jj m) 121 = J 121 := fun J => by
                  unfold pm_upJ
                  rw [if_neg (by omega)]
                have n23 : ∀ J : Nat → Nat → Int64, pm_upJ J (71 + 2 * o) (va_cpy (J (71 + 2 * t)) (J (71 + 2 * o)) u jj m) 122 = J 122 := fun J => by
                  unfold pm_upJ
                  rw [if_neg (by omega)]
                show pm_V X (d' + 49) 191 0 [some (.ref 82), some (.int (nI t)), some (.int (nI u)), some (.int (nI o)), some (.int (nI jj)), some (.int (nI m)), none] [] (pm_S0 ++ g, I, (pm_upJ J (71 + 2 * o) (va_cpy (J (71 + 2 * t)) (J (71 + 2 * o)) u jj m))) _
                simp only [e_M_shift_0, e_M_shift_1, e_M_shift_2, e_M_shift_5, e_M_shift_8, e_M_shift_9, e_M_shift_10, e_M_shift_13, e_M_shift_16, e_M_shift_17, e_M_shift_18, e_M_shift_19, e_M_shift_22, e_M_shift_23, e_M_shift_24, e_M_shift_27, e_M_shift_28, e_M_shift_31, e_M_shift_32, e_M_shift_33, e_M_shift_36, e_M_shift_38, e_M_shift_39, e_M_shift_40, e_M_shift_43, e_M_shift_44, e_M_shift_45, e_M_shift_46, e_M_shift_49, e_M_shift_50, e_M_shift_51, e_M_shift_54, e_M_shift_56, e_M_shift_57, e_M_shift_59, e_M_shift_62, e_M_shift_63, e_M_shift_66, e_M_shift_68, e_M_shift_71, e_M_shift_72, e_M_shift_73, e_M_shift_76, e_M_shift_77, e_M_shift_78, e_M_shift_80, e_M_shift_81, e_M_shift_84, e_M_shift_86, e_M_shift_87, e_M_shift_90, e_M_shift_91, e_M_shift_92, e_M_shift_94, e_M_shift_95, e_M_shift_98, e_M_shift_100, e_M_shift_101, e_M_shift_102, e_M_shift_106, e_M_shift_108, e_M_shift_111, e_M_shift_112, e_M_shift_115, e_M_shift_117, e_M_shift_118, e_M_shift_121, e_M_shift_123, e_M_shift_124, e_M_shift_125, e_M_shift_126, e_M_shift_127, e_M_shift_129, e_M_shift_130, e_M_shift_131, e_M_shift_132, e_M_shift_135, e_M_shift_138, e_M_shift_139, e_M_shift_143, e_M_shift_145, e_M_shift_148, e_M_shift_149, e_M_shift_152, e_M_shift_154, e_M_shift_155, e_M_shift_156, e_M_shift_158, e_M_shift_159, e_M_shift_161, e_M_shift_162, e_M_shift_163, e_M_shift_166, e_M_shift_168, e_M_shift_169, e_M_shift_170, e_M_shift_173, e_M_shift_176, e_M_shift_178, sh_o_82, K_M_isTape, eq_true ha, eq_true hb, sh_r_82_55, sh_r_82_56, sh_i_119, sh_i_120, bt, ct, bo, co, e4'.1, f4'.1, f4'.2, q1, q2, q3, nn m hm, nn u hu, nn jj hjj, eq_true il, eq_false (Int32.not_lt.mpr il), eq_true clo, pm_opt_some, pm_opt_none, pm_opt_if, Bool.false_eq_true, Bool.not_false, Bool.not_true, if_false, if_true, true_and, and_true, true_or, or_true, not_true_eq_false, not_false_eq_true, q10, q00, q01, q11, pk_v, pk_i, pk_l, pk_r]
                rw [M_shift_1 ht' (by omega) (by omega)]
                simp only [e_M_shift_138, e_M_shift_139]
                rw [M_shift_2 ho' (by omega) (by omega)]
                rfl
              · refine Rel_JJ hR ?_
                exact RT_shift hR.2.2.2.2.2.2.2 ht' ho' (show u + m ≤ 60 by omega) (show jj + m ≤ 60 by omega)
            · refine Pair_q (v := .int (-13)) hR ⟨I, sfr_rf, K50 fun d' => ?_⟩ (fun I1 h1 hR1 => ⟨I1, sfr_rf, K50 fun d' => ?_⟩)
              · show pm_V X (d' + 49) 35 0 [some (.ref 0), some (.int (nI t)), some (.int i), some (.int (nI o)), some (.int c), some (.int n), none, none] [] (pm_S0 ++ g, I, J) _
                by_cases A : (0 ≤ n ∧ 0 ≤ i) ∧ n ≤ I (70 + 2 * t) 1 ∧ i ≤ I (70 + 2 * t) 1 - n
                · have A' : ¬ ((0 ≤ n ∧ 0 ≤ c) ∧ n ≤ I (70 + 2 * o) 1 ∧ c ≤ I (70 + 2 * o) 1 - n) := fun z => q4 ⟨A, z⟩
                  simp only [e_B_shift_0, e_B_shift_1, e_B_shift_4, e_B_shift_7, e_B_shift_8, e_B_shift_11, e_B_shift_14, e_B_shift_15, e_B_shift_16, e_B_shift_17, e_B_shift_20, e_B_shift_21, e_B_shift_22, e_B_shift_24, e_B_shift_25, e_B_shift_28, e_B_shift_29, e_B_shift_30, e_B_shift_32, e_B_shift_34, e_B_shift_37, e_B_shift_38, e_B_shift_41, e_B_shift_43, e_B_shift_46, e_B_shift_47, e_B_shift_50, e_B_shift_52, e_B_shift_53, e_B_shift_55, e_B_shift_58, e_B_shift_60, e_B_shift_63, e_B_shift_66, e_B_shift_68, e_B_shift_69, e_B_shift_71, e_B_shift_72, e_B_shift_74, e_B_shift_77, e_B_shift_80, e_B_shift_82, e_B_shift_84, e_B_shift_86, e_B_shift_89, e_B_shift_92, e_B_shift_94, e_B_shift_95, e_B_shift_97, e_B_shift_100, e_B_shift_101, e_B_shift_103, e_B_shift_106, e_B_shift_108, e_B_shift_110, e_B_shift_113, e_B_shift_115, K_B_isTape, eq_true ha, eq_true hb, sh_r_0_8, tp_a ht', tp_a ho', tp_o ht', tp_o ho', q1, q2, q3, K_T_hasPart ht', K_T_hasPart ho', eq_true A, eq_false A', pm_opt_some, pm_opt_none, pm_opt_if, Bool.false_eq_true, Bool.not_false, Bool.not_true, if_false, if_true, true_and, and_true, true_or, or_true, not_true_eq_false, not_false_eq_true, q10, q00, q01, q11, pk_v, pk_i, pk_l, pk_r]
                · simp only [e_B_shift_0, e_B_shift_1, e_B_shift_4, e_B_shift_7, e_B_shift_8, e_B_shift_11, e_B_shift_14, e_B_shift_15, e_B_shift_16, e_B_shift_17, e_B_shift_20, e_B_shift_21, e_B_shift_22, e_B_shift_24, e_B_shift_25, e_B_shift_28, e_B_shift_29, e_B_shift_30, e_B_shift_32, e_B_shift_34, e_B_shift_37, e_B_shift_38, e_B_shift_41, e_B_shift_43, e_B_shift_46, e_B_shift_47, e_B_shift_50, e_B_shift_52, e_B_shift_53, e_B_shift_55, e_B_shift_58, e_B_shift_60, e_B_shift_63, e_B_shift_66, e_B_shift_68, e_B_shift_69, e_B_shift_71, e_B_shift_72, e_B_shift_74, e_B_shift_77, e_B_shift_80, e_B_shift_82, e_B_shift_84, e_B_shift_86, e_B_shift_89, e_B_shift_92, e_B_shift_94, e_B_shift_95, e_B_shift_97, e_B_shift_100, e_B_shift_101, e_B_shift_103, e_B_shift_106, e_B_shift_108, e_B_shift_110, e_B_shift_113, e_B_shift_115, K_B_isTape, eq_true ha, eq_true hb, sh_r_0_8, tp_a ht', tp_a ho', tp_o ht', tp_o ho', q1, q2, q3, K_T_hasPart ht', eq_false A, pm_opt_some, pm_opt_none, pm_opt_if, Bool.false_eq_true, Bool.not_false, Bool.not_true, if_false, if_true, true_and, and_true, true_or, or_true, not_true_eq_false, not_false_eq_true, q10, q00, q01, q11, pk_v, pk_i, pk_l, pk_r]
              · have b1 := r2 t ht' I1 h1 hR1
                have b2 := r2 o ho' I1 h1 hR1
                show pm_V X (d' + 49) 191 0 [some (.ref 82), some (.int (nI t)), some (.int i), some (.int (nI o)), some (.int c), some (.int n), none] [] (pm_S0 ++ g, I1, J) _
                by_cases y1 : n < 0
                · simp only [e_M_shift_0, e_M_shift_1, e_M_shift_2, e_M_shift_5, e_M_shift_8, e_M_shift_9, e_M_shift_10, e_M_shift_13, e_M_shift_16, e_M_shift_17, e_M_shift_18, e_M_shift_19, e_M_shift_22, e_M_shift_23, e_M_shift_24, e_M_shift_27, e_M_shift_28, e_M_shift_31, e_M_shift_32, e_M_shift_33, e_M_shift_36, e_M_shift_38, e_M_shift_39, e_M_shift_40, e_M_shift_43, e_M_shift_44, e_M_shift_45, e_M_shift_46, e_M_shift_49, e_M_shift_50, e_M_shift_51, e_M_shift_54, e_M_shift_56, e_M_shift_57, e_M_shift_59, e_M_shift_62, e_M_shift_63, e_M_shift_66, e_M_shift_68, e_M_shift_71, e_M_shift_72, e_M_shift_73, e_M_shift_76, e_M_shift_77, e_M_shift_78, e_M_shift_80, e_M_shift_81, e_M_shift_84, e_M_shift_86, e_M_shift_87, e_M_shift_90, e_M_shift_91, e_M_shift_92, e_M_shift_94, e_M_shift_95, e_M_shift_98, e_M_shift_100, e_M_shift_101, e_M_shift_102, e_M_shift_106, e_M_shift_108, e_M_shift_111, e_M_shift_112, e_M_shift_115, e_M_shift_117, e_M_shift_118, e_M_shift_121, e_M_shift_123, e_M_shift_124, e_M_shift_125, e_M_shift_126, e_M_shift_127, e_M_shift_129, e_M_shift_130, e_M_shift_131, e_M_shift_132, e_M_shift_135, e_M_shift_138, e_M_shift_139, e_M_shift_143, e_M_shift_145, e_M_shift_148, e_M_shift_149, e_M_shift_152, e_M_shift_154, e_M_shift_155, e_M_shift_156, e_M_shift_158, e_M_shift_159, e_M_shift_161, e_M_shift_162, e_M_shift_163, e_M_shift_166, e_M_shift_168, e_M_shift_169, e_M_shift_170, e_M_shift_173, e_M_shift_176, e_M_shift_178, sh_o_82, K_M_isTape, eq_true ha, eq_true hb, sh_r_82_55, sh_i_119, bt, ct, bo, co, r1 t ht' I1 h1 hR1, r1 o ho' I1 h1 hR1, e4'.1, f4'.1, f4'.2, q1, q2, q3, y1, pm_opt_some, pm_opt_none, pm_opt_if, Bool.false_eq_true, Bool.not_false, Bool.not_true, if_false, if_true, true_and, and_true, true_or, or_true, not_true_eq_false, not_false_eq_true, q10, q00, q01, q11, pk_v, pk_i, pk_l, pk_r]
                · by_cases y2 : i < 0
                  · simp only [e_M_shift_0, e_M_shift_1, e_M_shift_2, e_M_shift_5, e_M_shift_8, e_M_shift_9, e_M_shift_10, e_M_shift_13, e_M_shift_16, e_M_shift_17, e_M_shift_18, e_M_shift_19, e_M_shift_22, e_M_shift_23, e_M_shift_24, e_M_shift_27, e_M_shift_28, e_M_shift_31, e_M_shift_32, e_M_shift_33, e_M_shift_36, e_M_shift_38, e_M_shift_39, e_M_shift_40, e_M_shift_43, e_M_shift_44, e_M_shift_45, e_M_shift_46, e_M_shift_49, e_M_shift_50, e_M_shift_51, e_M_shift_54, e_M_shift_56, e_M_shift_57, e_M_shift_59, e_M_shift_62, e_M_shift_63, e_M_shift_66, e_M_shift_68, e_M_shift_71, e_M_shift_72, e_M_shift_73, e_M_shift_76, e_M_shift_77, e_M_shift_78, e_M_shift_80, e_M_shift_81, e_M_shift_84, e_M_shift_86, e_M_shift_87, e_M_shift_90, e_M_shift_91, e_M_shift_92, e_M_shift_94, e_M_shift_95, e_M_shift_98, e_M_shift_100, e_M_shift_101, e_M_shift_102, e_M_shift_106, e_M_shift_108, e_M_shift_111, e_M_shift_112, e_M_shift_115, e_M_shift_117, e_M_shift_118, e_M_shift_121, e_M_shift_123, e_M_shift_124, e_M_shift_125, e_M_shift_126, e_M_shift_127, e_M_shift_129, e_M_shift_130, e_M_shift_131, e_M_shift_132, e_M_shift_135, e_M_shift_138, e_M_shift_139, e_M_shift_143, e_M_shift_145, e_M_shift_148, e_M_shift_149, e_M_shift_152, e_M_shift_154, e_M_shift_155, e_M_shift_156, e_M_shift_158, e_M_shift_159, e_M_shift_161, e_M_shift_162, e_M_shift_163, e_M_shift_166, e_M_shift_168, e_M_shift_169, e_M_shift_170, e_M_shift_173, e_M_shift_176, e_M_shift_178, sh_o_82, K_M_isTape, eq_true ha, eq_true hb, sh_r_82_55, sh_i_119, bt, ct, bo, co, r1 t ht' I1 h1 hR1, r1 o ho' I1 h1 hR1, e4'.1, f4'.1, f4'.2, q1, q2, q3, y1, y2, pm_opt_some, pm_opt_none, pm_opt_if, Bool.false_eq_true, Bool.not_false, Bool.not_true, if_false, if_true, true_and, and_true, true_or, or_true, not_true_eq_false, not_false_eq_true, q10, q00, q01, q11, pk_v, pk_i, pk_l, pk_r]
                  · by_cases y3 : c < 0
                    · simp only [e_M_shift_0, e_M_shift_1, e_M_shift_2, e_M_shift_5, e_M_shift_8, e_M_shift_9, e_M_shift_10, e_M_shift_13, e_M_shift_16, e_M_shift_17, e_M_shift_18, e_M_shift_19, e_M_shift_22, e_M_shift_23, e_M_shift_24, e_M_shift_27, e_M_shift_28, e_M_shift_31, e_M_shift_32, e_M_shift_33, e_M_shift_36, e_M_shift_38, e_M_shift_39, e_M_shift_40, e_M_shift_43, e_M_shift_44, e_M_shift_45, e_M_shift_46, e_M_shift_49, e_M_shift_50, e_M_shift_51, e_M_shift_54, e_M_shift_56, e_M_shift_57, e_M_shift_59, e_M_shift_62, e_M_shift_63, e_M_shift_66, e_M_shift_68, e_M_shift_71, e_M_shift_72, e_M_shift_73, e_M_shift_76, e_M_shift_77, e_M_shift_78, e_M_shift_80, e_M_shift_81, e_M_shift_84, e_M_shift_86, e_M_shift_87, e_M_shift_90, e_M_shift_91, e_M_shift_92, e_M_shift_94, e_M_shift_95, e_M_shift_98, e_M_shift_100, e_M_shift_101, e_M_shift_102, e_M_shift_106, e_M_shift_108, e_M_shift_111, e_M_shift_112, e_M_shift_115, e_M_shift_117, e_M_shift_118, e_M_shift_121, e_M_shift_123, e_M_shift_124, e_M_shift_125, e_M_shift_126, e_M_shift_127, e_M_shift_129, e_M_shift_130, e_M_shift_131, e_M_shift_132, e_M_shift_135, e_M_shift_138, e_M_shift_139, e_M_shift_143, e_M_shift_145, e_M_shift_148, e_M_shift_149, e_M_shift_152, e_M_shift_154, e_M_shift_155, e_M_shift_156, e_M_shift_158, e_M_shift_159, e_M_shift_161, e_M_shift_162, e_M_shift_163, e_M_shift_166, e_M_shift_168, e_M_shift_169, e_M_shift_170, e_M_shift_173, e_M_shift_176, e_M_shift_178, sh_o_82, K_M_isTape, eq_true ha, eq_true hb, sh_r_82_55, sh_i_119, bt, ct, bo, co, r1 t ht' I1 h1 hR1, r1 o ho' I1 h1 hR1, e4'.1, f4'.1, f4'.2, q1, q2, q3, y1, y2, y3, pm_opt_some, pm_opt_none, pm_opt_if, Bool.false_eq_true, Bool.not_false, Bool.not_true, if_false, if_true, true_and, and_true, true_or, or_true, not_true_eq_false, not_false_eq_true, q10, q00, q01, q11, pk_v, pk_i, pk_l, pk_r]
                    · by_cases y4 : i ≤ I (70 + 2 * t) 1 - n
                      · have y4' := eq_false (Int32.not_lt.mpr y4)
                        by_cases y5 : c ≤ I (70 + 2 * o) 1 - n
                        · exact absurd ⟨⟨⟨Int32.not_lt.mp y1, Int32.not_lt.mp y2⟩, len_sub hl e3 y1 y2 y4, y4⟩, ⟨Int32.not_lt.mp y1, Int32.not_lt.mp y3⟩, len_sub hlo f3 y1 y3 y5, y5⟩ q4
                        · simp only [e_M_shift_0, e_M_shift_1, e_M_shift_2, e_M_shift_5, e_M_shift_8, e_M_shift_9, e_M_shift_10, e_M_shift_13, e_M_shift_16, e_M_shift_17, e_M_shift_18, e_M_shift_19, e_M_shift_22, e_M_shift_23, e_M_shift_24, e_M_shift_27, e_M_shift_28, e_M_shift_31, e_M_shift_32, e_M_shift_33, e_M_shift_36, e_M_shift_38, e_M_shift_39, e_M_shift_40, e_M_shift_43, e_M_shift_44, e_M_shift_45, e_M_shift_46, e_M_shift_49, e_M_shift_50, e_M_shift_51, e_M_shift_54, e_M_shift_56, e_M_shift_57, e_M_shift_59, e_M_shift_62, e_M_shift_63, e_M_shift_66, e_M_shift_68, e_M_shift_71, e_M_shift_72, e_M_shift_73, e_M_shift_76, e_M_shift_77, e_M_shift_78, e_M_shift_80, e_M_shift_81, e_M_shift_84, e_M_shift_86, e_M_shift_87, e_M_shift_90, e_M_shift_91, e_M_shift_92, e_M_shift_94, e_M_shift_95, e_M_shift_98, e_M_shift_100, e_M_shift_101, e_M_shift_102, e_M_shift_106, e_M_shift_108, e_M_shift_111, e_M_shift_112, e_M_shift_115, e_M_shift_117, e_M_shift_118, e_M_shift_121, e_M_shift_123, e_M_shift_124, e_M_shift_125, e_M_shift_126, e_M_shift_127, e_M_shift_129, e_M_shift_130, e_M_shift_131, e_M_shift_132, e_M_shift_135, e_M_shift_138, e_M_shift_139, e_M_shift_143, e_M_shift_145, e_M_shift_148, e_M_shift_149, e_M_shift_152, e_M_shift_154, e_M_shift_155, e_M_shift_156, e_M_shift_158, e_M_shift_159, e_M_shift_161, e_M_shift_162, e_M_shift_163, e_M_shift_166, e_M_shift_168, e_M_shift_169, e_M_shift_170, e_M_shift_173, e_M_shift_176, e_M_shift_178, sh_o_82, K_M_isTape, eq_true ha, eq_true hb, sh_r_82_55, sh_r_82_56, sh_i_119, sh_i_120, bt, ct, bo, co, r1 t ht' I1 h1 hR1, r1 o ho' I1 h1 hR1, b1, b2, e4'.1, f4'.1, f4'.2, q1, q2, q3, y1, y2, y3, y4, y4', y5, pm_opt_some, pm_opt_none, pm_opt_if, Bool.false_eq_true, Bool.not_false, Bool.not_true, if_false, if_true, true_and, and_true, true_or, or_true, not_true_eq_false, not_false_eq_true, q10, q00, q01, q11, pk_v, pk_i, pk_l, pk_r]
                      · have y4' := eq_true (Int32.not_le.mp y4)
                        simp only [e_M_shift_0, e_M_shift_1, e_M_shift_2, e_M_shift_5, e_M_shift_8, e_M_shift_9, e_M_shift_10, e_M_shift_13, e_M_shift_16, e_M_shift_17, e_M_shift_18, e_M_shift_19, e_M_shift_22, e_M_shift_23, e_M_shift_24, e_M_shift_27, e_M_shift_28, e_M_shift_31, e_M_shift_32, e_M_shift_33, e_M_shift_36, e_M_shift_38, e_M_shift_39, e_M_shift_40, e_M_shift_43, e_M_shift_44, e_M_shift_45, e_M_shift_46, e_M_shift_49, e_M_shift_50, e_M_shift_51, e_M_shift_54, e_M_shift_56, e_M_shift_57, e_M_shift_59, e_M_shift_62, e_M_shift_63, e_M_shift_66, e_M_shift_68, e_M_shift_71, e_M_shift_72, e_M_shift_73, e_M_shift_76, e_M_shift_77, e_M_shift_78, e_M_shift_80, e_M_shift_81, e_M_shift_84, e_M_shift_86, e_M_shift_87, e_M_shift_90, e_M_shift_91, e_M_shift_92, e_M_shift_94, e_M_shift_95, e_M_shift_98, e_M_shift_100, e_M_shift_101, e_M_shift_102, e_M_shift_106, e_M_shift_108, e_M_shift_111, e_M_shift_112, e_M_shift_115, e_M_shift_117, e_M_shift_118, e_M_shift_121, e_M_shift_123, e_M_shift_124, e_M_shift_125, e_M_shift_126, e_M_shift_127, e_M_shift_129, e_M_shift_130, e_M_shift_131, e_M_shift_132, e_M_shift_135, e_M_shift_138, e_M_shift_139, e_M_shift_143, e_M_shift_145, e_M_shift_148, e_M_shift_149, e_M_shift_152, e_M_shift_154, e_M_shift_155, e_M_shift_156, e_M_shift_158, e_M_shift_159, e_M_shift_161, e_M_shift_162, e_M_shift_163, e_M_shift_166, e_M_shift_168, e_M_shift_169, e_M_shift_170, e_M_shift_173, e_M_shift_176, e_M_shift_178, sh_o_82, K_M_isTape, eq_true ha, eq_true hb, sh_r_82_55, sh_r_82_56, sh_i_119, sh_i_120, bt, ct, bo, co, r1 t ht' I1 h1 hR1, r1 o ho' I1 h1 hR1, b1, b2, e4'.1, f4'.1, f4'.2, q1, q2, q3, y1, y2, y3, y4, y4', pm_opt_some, pm_opt_none, pm_opt_if, Bool.false_eq_true, Bool.not_false, Bool.not_true, if_false, if_true, true_and, and_true, true_or, or_true, not_true_eq_false, not_false_eq_true, q10, q00, q01, q11, pk_v, pk_i, pk_l, pk_r]
          · refine Pair_q (v := .int (-12)) hR ⟨I, sfr_rf, K50 fun d' => ?_⟩ (fun I1 h1 hR1 => ⟨I1, sfr_rf, K50 fun d' => ?_⟩)
            · show pm_V X (d' + 49) 35 0 [some (.ref 0), some (.int (nI t)), some (.int i), some (.int (nI o)), some (.int c), some (.int n), none, none] [] (pm_S0 ++ g, I, J) _
              simp only [e_B_shift_0, e_B_shift_1, e_B_shift_4, e_B_shift_7, e_B_shift_8, e_B_shift_11, e_B_shift_14, e_B_shift_15, e_B_shift_16, e_B_shift_17, e_B_shift_20, e_B_shift_21, e_B_shift_22, e_B_shift_24, e_B_shift_25, e_B_shift_28, e_B_shift_29, e_B_shift_30, e_B_shift_32, e_B_shift_34, e_B_shift_37, e_B_shift_38, e_B_shift_41, e_B_shift_43, e_B_shift_46, e_B_shift_47, e_B_shift_50, e_B_shift_52, e_B_shift_53, e_B_shift_55, e_B_shift_58, e_B_shift_60, e_B_shift_63, e_B_shift_66, e_B_shift_68, e_B_shift_69, e_B_shift_71, e_B_shift_72, e_B_shift_74, e_B_shift_77, e_B_shift_80, e_B_shift_82, e_B_shift_84, e_B_shift_86, e_B_shift_89, e_B_shift_92, e_B_shift_94, e_B_shift_95, e_B_shift_97, e_B_shift_100, e_B_shift_101, e_B_shift_103, e_B_shift_106, e_B_shift_108, e_B_shift_110, e_B_shift_113, e_B_shift_115, K_B_isTape, eq_true ha, eq_true hb, sh_r_0_8, tp_a ht', tp_a ho', tp_o ht', tp_o ho', q1, q2, q3, pm_opt_some, pm_opt_none, pm_opt_if, Bool.false_eq_true, Bool.not_false, Bool.not_true, if_false, if_true, true_and, and_true, true_or, or_true, not_true_eq_false, not_false_eq_true, q10, q00, q01, q11, pk_v, pk_i, pk_l, pk_r]
            · show pm_V X (d' + 49) 191 0 [some (.ref 82), some (.int (nI t)), some (.int i), some (.int (nI o)), some (.int c), some (.int n), none] [] (pm_S0 ++ g, I1, J) _
              simp only [e_M_shift_0, e_M_shift_1, e_M_shift_2, e_M_shift_5, e_M_shift_8, e_M_shift_9, e_M_shift_10, e_M_shift_13, e_M_shift_16, e_M_shift_17, e_M_shift_18, e_M_shift_19, e_M_shift_22, e_M_shift_23, e_M_shift_24, e_M_shift_27, e_M_shift_28, e_M_shift_31, e_M_shift_32, e_M_shift_33, e_M_shift_36, e_M_shift_38, e_M_shift_39, e_M_shift_40, e_M_shift_43, e_M_shift_44, e_M_shift_45, e_M_shift_46, e_M_shift_49, e_M_shift_50, e_M_shift_51, e_M_shift_54, e_M_shift_56, e_M_shift_57, e_M_shift_59, e_M_shift_62, e_M_shift_63, e_M_shift_66, e_M_shift_68, e_M_shift_71, e_M_shift_72, e_M_shift_73, e_M_shift_76, e_M_shift_77, e_M_shift_78, e_M_shift_80, e_M_shift_81, e_M_shift_84, e_M_shift_86, e_M_shift_87, e_M_shift_90, e_M_shift_91, e_M_shift_92, e_M_shift_94, e_M_shift_95, e_M_shift_98, e_M_shift_100, e_M_shift_101, e_M_shift_102, e_M_shift_104, e_M_shift_106, e_M_shift_108, e_M_shift_111, e_M_shift_112, e_M_shift_115, e_M_shift_117, e_M_shift_118, e_M_shift_121, e_M_shift_123, e_M_shift_124, e_M_shift_125, e_M_shift_126, e_M_shift_127, e_M_shift_129, e_M_shift_130, e_M_shift_131, e_M_shift_132, e_M_shift_135, e_M_shift_138, e_M_shift_139, e_M_shift_141, e_M_shift_143, e_M_shift_145, e_M_shift_148, e_M_shift_149, e_M_shift_152, e_M_shift_154, e_M_shift_155, e_M_shift_156, e_M_shift_158, e_M_shift_159, e_M_shift_161, e_M_shift_162, e_M_shift_163, e_M_shift_166, e_M_shift_168, e_M_shift_169, e_M_shift_170, e_M_shift_173, e_M_shift_176, e_M_shift_178, sh_o_82, K_M_isTape, eq_true ha, eq_true hb, sh_r_82_55, sh_i_119, bt, ct, bo, co, r1 t ht' I1 h1 hR1, r1 o ho' I1 h1 hR1, e4'.1, f4'.1, f4'.2, q1, q2, q3, pm_opt_some, pm_opt_none, pm_opt_if, Bool.false_eq_true, Bool.not_false, Bool.not_true, if_false, if_true, true_and, and_true, true_or, or_true, not_true_eq_false, not_false_eq_true, q10, q00, q01, q11, pk_v, pk_i, pk_l, pk_r]
    · exact Pair_q (v := .int (-1)) hR ⟨I, sfr_rf, K50 fun d' => by { show pm_V X (d' + 49) 35 0 [some (.ref 0), some (.int a), some (.int i), some (.int b), some (.int c), some (.int n), none, none] [] (pm_S0 ++ g, I, J) _; simp only [e_B_shift_0, e_B_shift_1, e_B_shift_4, e_B_shift_7, e_B_shift_8, e_B_shift_11, e_B_shift_14, e_B_shift_15, e_B_shift_16, e_B_shift_17, e_B_shift_20, e_B_shift_21, e_B_shift_22, e_B_shift_24, e_B_shift_25, e_B_shift_28, e_B_shift_29, e_B_shift_30, e_B_shift_32, e_B_shift_34, e_B_shift_37, e_B_shift_38, e_B_shift_41, e_B_shift_43, e_B_shift_46, e_B_shift_47, e_B_shift_50, e_B_shift_52, e_B_shift_53, e_B_shift_55, e_B_shift_58, e_B_shift_60, e_B_shift_63, e_B_shift_66, e_B_shift_68, e_B_shift_69, e_B_shift_71, e_B_shift_72, e_B_shift_74, e_B_shift_77, e_B_shift_80, e_B_shift_82, e_B_shift_84, e_B_shift_86, e_B_shift_89, e_B_shift_92, e_B_shift_94, e_B_shift_95, e_B_shift_97, e_B_shift_100, e_B_shift_101, e_B_shift_103, e_B_shift_106, e_B_shift_108, e_B_shift_110, e_B_shift_113, e_B_shift_115, K_B_isCell, K_B_isWithin, K_B_isTape, K_B_isKind, eq_true ha, eq_false hb, pm_opt_some, pm_opt_none, pm_opt_if, Bool.false_eq_true, Bool.not_false, Bool.not_true, if_false, if_true, true_and, and_true, true_or, or_true, not_true_eq_false, not_false_eq_true, q10, q00, q01, q11, pk_v, pk_i, pk_l, pk_r] }⟩ (fun I1 h1 hR1 => ⟨I1, sfr_rf, K50 fun d' => by { show pm_V X (d' + 49) 191 0 [some (.ref 82), some (.int a), some (.int i), some (.int b), some (.int c), some (.int n), none] [] (pm_S0 ++ g, I1, J) _; simp only [e_M_shift_0, e_M_shift_1, e_M_shift_2, e_M_shift_5, e_M_shift_8, e_M_shift_9, e_M_shift_10, e_M_shift_13, e_M_shift_16, e_M_shift_17, e_M_shift_18, e_M_shift_19, e_M_shift_22, e_M_shift_23, e_M_shift_24, e_M_shift_27, e_M_shift_28, e_M_shift_31, e_M_shift_32, e_M_shift_33, e_M_shift_36, e_M_shift_38, e_M_shift_39, e_M_shift_40, e_M_shift_43, e_M_shift_44, e_M_shift_45, e_M_shift_46, e_M_shift_49, e_M_shift_50, e_M_shift_51, e_M_shift_54, e_M_shift_56, e_M_shift_57, e_M_shift_59, e_M_shift_62, e_M_shift_63, e_M_shift_66, e_M_shift_68, e_M_shift_71, e_M_shift_72, e_M_shift_73, e_M_shift_76, e_M_shift_77, e_M_shift_78, e_M_shift_80, e_M_shift_81, e_M_shift_84, e_M_shift_86, e_M_shift_87, e_M_shift_90, e_M_shift_91, e_M_shift_92, e_M_shift_94, e_M_shift_95, e_M_shift_98, e_M_shift_100, e_M_shift_101, e_M_shift_102, e_M_shift_104, e_M_shift_106, e_M_shift_108, e_M_shift_111, e_M_shift_112, e_M_shift_115, e_M_shift_117, e_M_shift_118, e_M_shift_121, e_M_shift_123, e_M_shift_124, e_M_shift_125, e_M_shift_126, e_M_shift_127, e_M_shift_129, e_M_shift_130, e_M_shift_131, e_M_shift_132, e_M_shift_135, e_M_shift_138, e_M_shift_139, e_M_shift_141, e_M_shift_143, e_M_shift_145, e_M_shift_148, e_M_shift_149, e_M_shift_152, e_M_shift_154, e_M_shift_155, e_M_shift_156, e_M_shift_158, e_M_shift_159, e_M_shift_161, e_M_shift_162, e_M_shift_163, e_M_shift_166, e_M_shift_168, e_M_shift_169, e_M_shift_170, e_M_shift_173, e_M_shift_176, e_M_shift_178, sh_o_82, K_M_isCell, K_M_in, K_M_isTape, eq_true ha, eq_false hb, pm_opt_some, pm_opt_none, pm_opt_if, Bool.false_eq_true, Bool.not_false, Bool.not_true, if_false, if_true, true_and, and_true, true_or, or_true, not_true_eq_false, not_false_eq_true, q10, q00, q01, q11, pk_v, pk_i, pk_l, pk_r] }⟩)
  · exact Pair_q (v := .int (-1)) hR ⟨I, sfr_rf, K50 fun d' => by { show pm_V X (d' + 49) 35 0 [some (.ref 0), some (.int a), some (.int i), some (.int b), some (.int c), some (.int n), none, none] [] (pm_S0 ++ g, I, J) _; simp only [e_B_shift_0, e_B_shift_1, e_B_shift_4, e_B_shift_7, e_B_shift_8, e_B_shift_11, e_B_shift_14, e_B_shift_15, e_B_shift_16, e_B_shift_17, e_B_shift_20, e_B_shift_21, e_B_shift_22, e_B_shift_24, e_B_shift_25, e_B_shift_28, e_B_shift_29, e_B_shift_30, e_B_shift_32, e_B_shift_34, e_B_shift_37, e_B_shift_38, e_B_shift_41, e_B_shift_43, e_B_shift_46, e_B_shift_47, e_B_shift_50, e_B_shift_52, e_B_shift_53, e_B_shift_55, e_B_shift_58, e_B_shift_60, e_B_shift_63, e_B_shift_66, e_B_shift_68, e_B_shift_69, e_B_shift_71, e_B_shift_72, e_B_shift_74, e_B_shift_77, e_B_shift_80, e_B_shift_82, e_B_shift_84, e_B_shift_86, e_B_shift_89, e_B_shift_92, e_B_shift_94, e_B_shift_95, e_B_shift_97, e_B_shift_100, e_B_shift_101, e_B_shift_103, e_B_shift_106, e_B_shift_108, e_B_shift_110, e_B_shift_113, e_B_shift_115, K_B_isCell, K_B_isWithin, K_B_isTape, K_B_isKind, eq_false ha, pm_opt_some, pm_opt_none, pm_opt_if, Bool.false_eq_true, Bool.not_false, Bool.not_true, if_false, if_true, true_and, and_true, true_or, or_true, not_true_eq_false, not_false_eq_true, q10, q00, q01, q11, pk_v, pk_i, pk_l, pk_r] }⟩ (fun I1 h1 hR1 => ⟨I1, sfr_rf, K50 fun d' => by { show pm_V X (d' + 49) 191 0 [some (.ref 82), some (.int a), some (.int i), some (.int b), some (.int c), some (.int n), none] [] (pm_S0 ++ g, I1, J) _; simp only [e_M_shift_0, e_M_shift_1, e_M_shift_2, e_M_shift_5, e_M_shift_8, e_M_shift_9, e_M_shift_10, e_M_shift_13, e_M_shift_16, e_M_shift_17, e_M_shift_18, e_M_shift_19, e_M_shift_22, e_M_shift_23, e_M_shift_24, e_M_shift_27, e_M_shift_28, e_M_shift_31, e_M_shift_32, e_M_shift_33, e_M_shift_36, e_M_shift_38, e_M_shift_39, e_M_shift_40, e_M_shift_43, e_M_shift_44, e_M_shift_45, e_M_shift_46, e_M_shift_49, e_M_shift_50, e_M_shift_51, e_M_shift_54, e_M_shift_56, e_M_shift_57, e_M_shift_59, e_M_shift_62, e_M_shift_63, e_M_shift_66, e_M_shift_68, e_M_shift_71, e_M_shift_72, e_M_shift_73, e_M_shift_76, e_M_shift_77, e_M_shift_78, e_M_shift_80, e_M_shift_81, e_M_shift_84, e_M_shift_86, e_M_shift_87, e_M_shift_90, e_M_shift_91, e_M_shift_92, e_M_shift_94, e_M_shift_95, e_M_shift_98, e_M_shift_100, e_M_shift_101, e_M_shift_102, e_M_shift_104, e_M_shift_106, e_M_shift_108, e_M_shift_111, e_M_shift_112, e_M_shift_115, e_M_shift_117, e_M_shift_118, e_M_shift_121, e_M_shift_123, e_M_shift_124, e_M_shift_125, e_M_shift_126, e_M_shift_127, e_M_shift_129, e_M_shift_130, e_M_shift_131, e_M_shift_132, e_M_shift_135, e_M_shift_138, e_M_shift_139, e_M_shift_141, e_M_shift_143, e_M_shift_145, e_M_shift_148, e_M_shift_149, e_M_shift_152, e_M_shift_154, e_M_shift_155, e_M_shift_156, e_M_shift_158, e_M_shift_159, e_M_shift_161, e_M_shift_162, e_M_shift_163, e_M_shift_166, e_M_shift_168, e_M_shift_169, e_M_shift_170, e_M_shift_173, e_M_shift_176, e_M_shift_178, sh_o_82, K_M_isCell, K_M_in, K_M_isTape, eq_false ha, pm_opt_some, pm_opt_none, pm_opt_if, Bool.false_eq_true, Bool.not_false, Bool.not_true, if_false, if_true, true_and, and_true, true_or, or_true, not_true_eq_false, not_false_eq_true, q10, q00, q01, q11, pk_v, pk_i, pk_l, pk_r] }⟩)
end P47
