/-! hours, the reference's side -/
/-- the reference's heap while it asks: the cells told, the hour, the pile -/
def MS (I : Nat → Nat → Int32) (T : Nat → T3) (n : Int32) (p : Nat → Int32) : Nat → Nat → Int32 := upC (pm_up (pm_w I 82 26 n) 98 p) 99 100 101 T 16
section P34
variable {X : pm_X} {d : Nat} {P Q : pm_O → Prop} {g : List pm_S} {S : List pm_S} {I I' : Nat → Nat → Int32} {J : Nat → Nat → Int64} {a b c j w : Nat} {x y z n : Int32} {t : T3} {T : Nat → T3} {p : Nat → Int32} {fi : Int32}
theorem t3_eta {α β γ : Type} (t : α × β × γ) : (t.1, t.2.1, t.2.2) = t := rfl
theorem cw_iff (ht : T3ok t) : (t.1 + t.2.1 ≤ 0) = (t.1 = 0 ∧ t.2.1 = 0) := by
  obtain ⟨h1, h2, h3⟩ := ht
  have e : (t.1 + t.2.1).toInt = t.1.toInt + t.2.1.toInt := i_add (by omega) (by omega)
  refine propext ?_
  rw [i_le, e, k0, i_eq, i_eq, k0]
  omega
theorem C_M_cell {f warm frost falls : Int32} {l6 : Option Value} (h87 : I 87 = I 7) (h88 : I 88 = I 8) (hj : j < 16) (ht : T3ok t) (hf : 0 ≤ falls.toInt ∧ falls.toInt ≤ 2000) (hcd : -100000 ≤ (coldI (I 7 j) (I 8 j) (I 82 26) (frost - ltI I j)).toInt ∧ (coldI (I 7 j) (I 8 j) (I 82 26) (frost - ltI I j)).toInt ≤ 100000) : pm_V X (d + 3) 144 34 [some (.ref 82), some (.int f), some (.int warm), some (.int frost), some (.int falls), some (.int (nI j)), l6] [] (pm_S0 ++ g, pm_t I 99 100 101 j t, J) Q = pm_V X (d + 3) 144 184 [some (.ref 82), some (.int f), some (.int warm), some (.int frost), some (.int falls), some (.int (nI j)), some (.int (coldI (I 7 j) (I 8 j) (I 82 26) (frost - ltI I j)))] [] (pm_S0 ++ g, pm_t I 99 100 101 j (passT (I 7 j) (I 8 j) (coldI (I 7 j) (I 8 j) (I 82 26) (frost - ltI I j)) falls t), J) Q := by
  have hb := bad_nI (k := j) (n := 16) hj (by decide)
  have hc := nI_clamp (n := j) (by omega)
  have n1 : (99 : Nat) ≠ 100 := by decide
  have n2 : (99 : Nat) ≠ 101 := by decide
  have n3 : (100 : Nat) ≠ 101 := by decide
  have r87 : ∀ t, pm_t I 99 100 101 j t 87 = I 7 := fun t => (p3_ne (by decide) (by decide) (by decide)).trans h87
  have r88 : ∀ t, pm_t I 99 100 101 j t 88 = I 8 := fun t => (p3_ne (by decide) (by decide) (by decide)).trans h88
  have r7 : ∀ t, pm_t I 99 100 101 j t 7 = I 7 := fun t => p3_ne (by decide) (by decide) (by decide)
  have r8 : ∀ t, pm_t I 99 100 101 j t 8 = I 8 := fun t => p3_ne (by decide) (by decide) (by decide)
  have r82 : ∀ t, pm_t I 99 100 101 j t 82 = I 82 := fun t => p3_ne (by decide) (by decide) (by decide)
  have lt : ∀ t i, ltI (pm_t I 99 100 101 j t) i = ltI I i := fun t i => ltI_fr (by rw [r82])
  have g5 : ∀ (Q : pm_O → Prop) (cold : Int32) (t : T3), pm_V X (d + 3) 144 134 [some (.ref 82), some (.int f), some (.int warm), some (.int frost), some (.int falls), some (.int (nI j)), some (.int cold)] [] (pm_S0 ++ g, pm_t I 99 100 101 j t, J) Q = pm_V X (d + 3) 144 184 [some (.ref 82), some (.int f), some (.int warm), some (.int frost), some (.int falls), some (.int (nI j)), some (.int cold)] [] (pm_S0 ++ g, pm_t I 99 100 101 j (p5T (I 7 j) (I 8 j) cold t), J) Q := by
    intro Q cold t
    simp only [e_M_goHour_0, e_M_goHour_1, e_M_goHour_2, e_M_goHour_3, e_M_goHour_6, e_M_goHour_7, e_M_goHour_10, e_M_goHour_11, e_M_goHour_12, e_M_goHour_13, e_M_goHour_14, e_M_goHour_15, e_M_goHour_18, e_M_goHour_19, e_M_goHour_22, e_M_goHour_24, e_M_goHour_25, e_M_goHour_27, e_M_goHour_29, e_M_goHour_31, e_M_goHour_34, e_M_goHour_35, e_M_goHour_38, e_M_goHour_40, e_M_goHour_41, e_M_goHour_42, e_M_goHour_45, e_M_goHour_47, e_M_goHour_48, e_M_goHour_49, e_M_goHour_52, e_M_goHour_53, e_M_goHour_56, e_M_goHour_58, e_M_goHour_59, e_M_goHour_61, e_M_goHour_62, e_M_goHour_65, e_M_goHour_67, e_M_goHour_68, e_M_goHour_70, e_M_goHour_71, e_M_goHour_74, e_M_goHour_75, e_M_goHour_76, e_M_goHour_78, e_M_goHour_79, e_M_goHour_82, e_M_goHour_83, e_M_goHour_86, e_M_goHour_88, e_M_goHour_90, e_M_goHour_93, e_M_goHour_94, e_M_goHour_96, e_M_goHour_98, e_M_goHour_101, e_M_goHour_103, e_M_goHour_106, e_M_goHour_107, e_M_goHour_109, e_M_goHour_111, e_M_goHour_112, e_M_goHour_115, e_M_goHour_116, e_M_goHour_119, e_M_goHour_121, e_M_goHour_122, e_M_goHour_123, e_M_goHour_126, e_M_goHour_127, e_M_goHour_130, e_M_goHour_132, e_M_goHour_133, e_M_goHour_134, e_M_goHour_135, e_M_goHour_138, e_M_goHour_140, e_M_goHour_141, e_M_goHour_143, e_M_goHour_146, e_M_goHour_148, e_M_goHour_149, e_M_goHour_150, e_M_goHour_153, e_M_goHour_155, e_M_goHour_156, e_M_goHour_157, e_M_goHour_160, e_M_goHour_161, e_M_goHour_164, e_M_goHour_166, e_M_goHour_167, e_M_goHour_168, e_M_goHour_169, e_M_goHour_172, e_M_goHour_174, e_M_goHour_175, e_M_goHour_176, e_M_goHour_177, e_M_goHour_180, e_M_goHour_182, e_M_goHour_183, e_M_goHour_187, e_M_goHour_190, e_M_goHour_191, e_M_goHour_192, e_M_goHour_195, e_M_goHour_196, e_M_goHour_197, e_M_goHour_200, sh_r_82_6, sh_r_82_7, sh_r_82_28, sh_r_82_29, sh_r_82_30, sh_i_87, sh_i_88, sh_w_99, sh_w_100, sh_w_101, hb, hc, r87, r88, pm_opt_some, pm_opt_none, pm_opt_if, Bool.false_eq_true, Bool.not_false, Bool.not_true, if_false, if_true, true_and, and_true, true_or, or_true, not_true_eq_false, not_false_eq_true, q10, q00, q01, q11, pk_v, pk_i, pk_l, pk_r]
    simp only [pm_t, p3_wa, p3_wb n1, p3_wc n2 n3]
    simp only [pt_d]
    unfold p5T
    by_cases q1 : I 7 j = 6
    · by_cases q2 : 2 * I 8 j ≤ cold
      · simp [q1, q2]
      · simp [q1, q2]
    · simp [q1]
  have g4 : ∀ (Q : pm_O → Prop) (cold : Int32) (t : T3), pm_V X (d + 3) 144 115 [some (.ref 82), some (.int f), some (.int warm), some (.int frost), some (.int falls), some (.int (nI j)), some (.int cold)] [] (pm_S0 ++ g, pm_t I 99 100 101 j t, J) Q = pm_V X (d + 3) 144 184 [some (.ref 82), some (.int f), some (.int warm), some (.int frost), some (.int falls), some (.int (nI j)), some (.int cold)] [] (pm_S0 ++ g, pm_t I 99 100 101 j (p5T (I 7 j) (I 8 j) cold (p4T (I 7 j) t)), J) Q := by
    intro Q cold t
    simp only [e_M_goHour_0, e_M_goHour_1, e_M_goHour_2, e_M_goHour_3, e_M_goHour_6, e_M_goHour_7, e_M_goHour_10, e_M_goHour_11, e_M_goHour_12, e_M_goHour_13, e_M_goHour_14, e_M_goHour_15, e_M_goHour_18, e_M_goHour_19, e_M_goHour_22, e_M_goHour_24, e_M_goHour_25, e_M_goHour_27, e_M_goHour_29, e_M_goHour_31, e_M_goHour_34, e_M_goHour_35, e_M_goHour_38, e_M_goHour_40, e_M_goHour_41, e_M_goHour_42, e_M_goHour_45, e_M_goHour_47, e_M_goHour_48, e_M_goHour_49, e_M_goHour_52, e_M_goHour_53, e_M_goHour_56, e_M_goHour_58, e_M_goHour_59, e_M_goHour_61, e_M_goHour_62, e_M_goHour_65, e_M_goHour_67, e_M_goHour_68, e_M_goHour_70, e_M_goHour_71, e_M_goHour_74, e_M_goHour_75, e_M_goHour_76, e_M_goHour_78, e_M_goHour_79, e_M_goHour_82, e_M_goHour_83, e_M_goHour_86, e_M_goHour_88, e_M_goHour_90, e_M_goHour_93, e_M_goHour_94, e_M_goHour_96, e_M_goHour_98, e_M_goHour_101, e_M_goHour_103, e_M_goHour_106, e_M_goHour_107, e_M_goHour_109, e_M_goHour_111, e_M_goHour_112, e_M_goHour_115, e_M_goHour_116, e_M_goHour_119, e_M_goHour_121, e_M_goHour_122, e_M_goHour_123, e_M_goHour_126, e_M_goHour_127, e_M_goHour_130, e_M_goHour_132, e_M_goHour_133, e_M_goHour_135, e_M_goHour_138, e_M_goHour_140, e_M_goHour_141, e_M_goHour_143, e_M_goHour_146, e_M_goHour_148, e_M_goHour_149, e_M_goHour_150, e_M_goHour_153, e_M_goHour_155, e_M_goHour_156, e_M_goHour_157, e_M_goHour_160, e_M_goHour_161, e_M_goHour_164, e_M_goHour_166, e_M_goHour_167, e_M_goHour_168, e_M_goHour_169, e_M_goHour_172, e_M_goHour_174, e_M_goHour_175, e_M_goHour_176, e_M_goHour_177, e_M_goHour_180, e_M_goHour_182, e_M_goHour_183, e_M_goHour_187, e_M_goHour_190, e_M_goHour_191, e_M_goHour_192, e_M_goHour_195, e_M_goHour_196, e_M_goHour_197, e_M_goHour_200, sh_r_82_6, sh_r_82_30, sh_i_87, sh_w_101, hb, hc, r87, pm_opt_some, pm_opt_none, pm_opt_if, Bool.false_eq_true, Bool.not_false, Bool.not_true, if_false, if_true, true_and, and_true, true_or, or_true, not_true_eq_false, not_false_eq_true, q10, q00, q01, q11, pk_v, pk_i, pk_l, pk_r]
    simp only [pm_t, p3_wc n2 n3]
    simp only [pt_d, g5]
    unfold p4T
    by_cases q1 : I 7 j = 1
    · simp [q1]
    · simp [q1]
  have g3 : ∀ (Q : pm_O → Prop) (cold : Int32) (t : T3), pm_V X (d + 3) 144 101 [some (.ref 82), some (.int f), some (.int warm), some (.int frost), some (.int falls), some (.int (nI j)), some (.int cold)] [] (pm_S0 ++ g, pm_t I 99 100 101 j t, J) Q = pm_V X (d + 3) 144 184 [some (.ref 82), some (.int f), some (.int warm), some (.int frost), some (.int falls), some (.int (nI j)), some (.int cold)] [] (pm_S0 ++ g, pm_t I 99 100 101 j (p5T (I 7 j) (I 8 j) cold (p4T (I 7 j) (p3T cold t))), J) Q := by
    intro Q cold t
    simp only [e_M_goHour_0, e_M_goHour_1, e_M_goHour_2, e_M_goHour_3, e_M_goHour_6, e_M_goHour_7, e_M_goHour_10, e_M_goHour_11, e_M_goHour_12, e_M_goHour_13, e_M_goHour_14, e_M_goHour_15, e_M_goHour_18, e_M_goHour_19, e_M_goHour_22, e_M_goHour_24, e_M_goHour_25, e_M_goHour_27, e_M_goHour_29, e_M_goHour_31, e_M_goHour_34, e_M_goHour_35, e_M_goHour_38, e_M_goHour_40, e_M_goHour_41, e_M_goHour_42, e_M_goHour_45, e_M_goHour_47, e_M_goHour_48, e_M_goHour_49, e_M_goHour_52, e_M_goHour_53, e_M_goHour_56, e_M_goHour_58, e_M_goHour_59, e_M_goHour_61, e_M_goHour_62, e_M_goHour_65, e_M_goHour_67, e_M_goHour_68, e_M_goHour_70, e_M_goHour_71, e_M_goHour_74, e_M_goHour_75, e_M_goHour_76, e_M_goHour_78, e_M_goHour_79, e_M_goHour_82, e_M_goHour_83, e_M_goHour_86, e_M_goHour_88, e_M_goHour_90, e_M_goHour_93, e_M_goHour_94, e_M_goHour_96, e_M_goHour_98, e_M_goHour_101, e_M_goHour_103, e_M_goHour_106, e_M_goHour_107, e_M_goHour_109, e_M_goHour_111, e_M_goHour_112, e_M_goHour_116, e_M_goHour_119, e_M_goHour_121, e_M_goHour_122, e_M_goHour_123, e_M_goHour_126, e_M_goHour_127, e_M_goHour_130, e_M_goHour_132, e_M_goHour_133, e_M_goHour_134, e_M_goHour_135, e_M_goHour_138, e_M_goHour_140, e_M_goHour_141, e_M_goHour_143, e_M_goHour_146, e_M_goHour_148, e_M_goHour_149, e_M_goHour_150, e_M_goHour_153, e_M_goHour_155, e_M_goHour_156, e_M_goHour_157, e_M_goHour_160, e_M_goHour_161, e_M_goHour_164, e_M_goHour_166, e_M_goHour_167, e_M_goHour_168, e_M_goHour_169, e_M_goHour_172, e_M_goHour_174, e_M_goHour_175, e_M_goHour_176, e_M_goHour_177, e_M_goHour_180, e_M_goHour_182, e_M_goHour_183, e_M_goHour_187, e_M_goHour_190, e_M_goHour_191, e_M_goHour_192, e_M_goHour_195, e_M_goHour_196, e_M_goHour_197, e_M_goHour_200, sh_o_82, K_M_melt hj, g4, pm_opt_some, pm_opt_none, pm_opt_if, Bool.false_eq_true, Bool.not_false, Bool.not_true, if_false, if_true, true_and, and_true, true_or, or_true, not_true_eq_false, not_false_eq_true, q10, q00, q01, q11, pk_v, pk_i, pk_l, pk_r]
    unfold p3T
    by_cases q1 : 0 ≤ cold
    · simp [q1]
    · simp [q1]
  have g2 : ∀ (Q : pm_O → Prop) (cold : Int32) (t : T3), T3ok t → pm_V X (d + 3) 144 88 [some (.ref 82), some (.int f), some (.int warm), some (.int frost), some (.int falls), some (.int (nI j)), some (.int cold)] [] (pm_S0 ++ g, pm_t I 99 100 101 j t, J) Q = pm_V X (d + 3) 144 184 [some (.ref 82), some (.int f), some (.int warm), some (.int frost), some (.int falls), some (.int (nI j)), some (.int cold)] [] (pm_S0 ++ g, pm_t I 99 100 101 j (p5T (I 7 j) (I 8 j) cold (p4T (I 7 j) (p3T cold (p2T (I 7 j) cold t)))), J) Q := by
    intro Q cold t ht
    simp only [e_M_goHour_0, e_M_goHour_1, e_M_goHour_2, e_M_goHour_3, e_M_goHour_6, e_M_goHour_7, e_M_goHour_10, e_M_goHour_11, e_M_goHour_12, e_M_goHour_13, e_M_goHour_14, e_M_goHour_15, e_M_goHour_18, e_M_goHour_19, e_M_goHour_22, e_M_goHour_24, e_M_goHour_25, e_M_goHour_27, e_M_goHour_29, e_M_goHour_31, e_M_goHour_34, e_M_goHour_35, e_M_goHour_38, e_M_goHour_40, e_M_goHour_41, e_M_goHour_42, e_M_goHour_45, e_M_goHour_47, e_M_goHour_48, e_M_goHour_49, e_M_goHour_52, e_M_goHour_53, e_M_goHour_56, e_M_goHour_58, e_M_goHour_59, e_M_goHour_61, e_M_goHour_62, e_M_goHour_65, e_M_goHour_67, e_M_goHour_68, e_M_goHour_70, e_M_goHour_71, e_M_goHour_74, e_M_goHour_75, e_M_goHour_76, e_M_goHour_78, e_M_goHour_79, e_M_goHour_82, e_M_goHour_83, e_M_goHour_86, e_M_goHour_88, e_M_goHour_90, e_M_goHour_93, e_M_goHour_94, e_M_goHour_96, e_M_goHour_98, e_M_goHour_103, e_M_goHour_106, e_M_goHour_107, e_M_goHour_109, e_M_goHour_111, e_M_goHour_112, e_M_goHour_115, e_M_goHour_116, e_M_goHour_119, e_M_goHour_121, e_M_goHour_122, e_M_goHour_123, e_M_goHour_126, e_M_goHour_127, e_M_goHour_130, e_M_goHour_132, e_M_goHour_133, e_M_goHour_134, e_M_goHour_135, e_M_goHour_138, e_M_goHour_140, e_M_goHour_141, e_M_goHour_143, e_M_goHour_146, e_M_goHour_148, e_M_goHour_149, e_M_goHour_150, e_M_goHour_153, e_M_goHour_155, e_M_goHour_156, e_M_goHour_157, e_M_goHour_160, e_M_goHour_161, e_M_goHour_164, e_M_goHour_166, e_M_goHour_167, e_M_goHour_168, e_M_goHour_169, e_M_goHour_172, e_M_goHour_174, e_M_goHour_175, e_M_goHour_176, e_M_goHour_177, e_M_goHour_180, e_M_goHour_182, e_M_goHour_183, e_M_goHour_187, e_M_goHour_190, e_M_goHour_191, e_M_goHour_192, e_M_goHour_195, e_M_goHour_196, e_M_goHour_197, e_M_goHour_200, sh_o_82, K_M_freeze h87 hj ht, g3, pm_opt_some, pm_opt_none, pm_opt_if, Bool.false_eq_true, Bool.not_false, Bool.not_true, if_false, if_true, true_and, and_true, true_or, or_true, not_true_eq_false, not_false_eq_true, q10, q00, q01, q11, pk_v, pk_i, pk_l, pk_r]
    unfold p2T
    by_cases q1 : cold ≤ 0
    · simp [q1]
    · simp [q1]
  simp only [e_M_goHour_0, e_M_goHour_1, e_M_goHour_2, e_M_goHour_3, e_M_goHour_6, e_M_goHour_7, e_M_goHour_10, e_M_goHour_11, e_M_goHour_12, e_M_goHour_13, e_M_goHour_14, e_M_goHour_15, e_M_goHour_18, e_M_goHour_19, e_M_goHour_22, e_M_goHour_24, e_M_goHour_25, e_M_goHour_27, e_M_goHour_29, e_M_goHour_31, e_M_goHour_34, e_M_goHour_35, e_M_goHour_38, e_M_goHour_40, e_M_goHour_41, e_M_goHour_42, e_M_goHour_45, e_M_goHour_47, e_M_goHour_48, e_M_goHour_49, e_M_goHour_52, e_M_goHour_53, e_M_goHour_56, e_M_goHour_58, e_M_goHour_59, e_M_goHour_61, e_M_goHour_62, e_M_goHour_65, e_M_goHour_67, e_M_goHour_68, e_M_goHour_70, e_M_goHour_71, e_M_goHour_74, e_M_goHour_75, e_M_goHour_76, e_M_goHour_78, e_M_goHour_79, e_M_goHour_82, e_M_goHour_83, e_M_goHour_86, e_M_goHour_90, e_M_goHour_93, e_M_goHour_94, e_M_goHour_96, e_M_goHour_98, e_M_goHour_101, e_M_goHour_103, e_M_goHour_106, e_M_goHour_107, e_M_goHour_109, e_M_goHour_111, e_M_goHour_112, e_M_goHour_115, e_M_goHour_116, e_M_goHour_119, e_M_goHour_121, e_M_goHour_122, e_M_goHour_123, e_M_goHour_126, e_M_goHour_127, e_M_goHour_130, e_M_goHour_132, e_M_goHour_133, e_M_goHour_134, e_M_goHour_135, e_M_goHour_138, e_M_goHour_140, e_M_goHour_141, e_M_goHour_143, e_M_goHour_146, e_M_goHour_148, e_M_goHour_149, e_M_goHour_150, e_M_goHour_153, e_M_goHour_155, e_M_goHour_156, e_M_goHour_157, e_M_goHour_160, e_M_goHour_161, e_M_goHour_164, e_M_goHour_166, e_M_goHour_167, e_M_goHour_168, e_M_goHour_169, e_M_goHour_172, e_M_goHour_174, e_M_goHour_175, e_M_goHour_176, e_M_goHour_177, e_M_goHour_180, e_M_goHour_182, e_M_goHour_183, e_M_goHour_187, e_M_goHour_190, e_M_goHour_191, e_M_goHour_192, e_M_goHour_195, e_M_goHour_196, e_M_goHour_197, e_M_goHour_200, sh_o_82, sh_r_82_28, sh_r_82_29, sh_r_82_30, sh_i_99, sh_i_100, sh_i_101, sh_w_101, hb, hc, K_M_min, pm_t, p3_a, p3_b n1, p3_c n2 n3, p3_wc n2 n3, pm_opt_some, pm_opt_none, pm_opt_if, Bool.false_eq_true, Bool.not_false, Bool.not_true, if_false, if_true, true_and, and_true, true_or, or_true, not_true_eq_false, not_false_eq_true, q10, q00, q01, q11, pk_v, pk_i, pk_l, pk_r]
  simp only [pt_d, K_M_coldOf ((r87 _).trans (r7 _).symm) ((r88 _).trans (r8 _).symm) hj, pk_i, r7, r8, r82, lt, t3_eta]
  have cw := cw_iff ht
  simp only [cw]
  unfold passT
  by_cases q : t.1 = 0 ∧ t.2.1 = 0
  · have e : p1T falls t = t := by unfold p1T; rw [if_pos q]
    rw [if_pos q, e, e_M_goHour_86, g2 _ _ _ ht]
  · have e : p1T falls t = (t.1, t.2.1, minI 99 (t.2.2 + falls)) := by unfold p1T; rw [if_neg q]
    rw [if_neg q, ← e, e_M_goHour_86, g2 _ _ _ (p1T_ok ht hf)]
theorem ws_bd {which hour warm : Int32} (hX : WX I w fi) : 0 ≤ (wsI I w which hour warm).toInt ∧ (wsI I w which hour warm).toInt ≤ 990 := by
  have hwn : wnI I w ≤ 10 := (WX_ok hX).2.1
  have A : ∀ c, c < wnI I w → 0 ≤ (I (w + 2) c).toInt ∧ (I (w + 2) c).toInt ≤ 99 := by
    intro c hc
    rcases hX with ⟨_, rfl, h0⟩ | ⟨f, hf, _, rfl, h1, h2, h3⟩
    · have e : wnI I 26 = 0 := by unfold wnI; rw [h0]; decide
      omega
    · obtain ⟨_, _, ⟨m, hm, e⟩, _⟩ := h3 c hc
      rw [e, nI_toInt (by omega)]
      omega
  have := fld_inv (f := fun c a => if I (w + 1) c = which ∧ holdsC (I (w + 4)) (enI I w) c hour warm = true then a + I (w + 2) c else a) (fun i a => 0 ≤ a.toInt ∧ a.toInt ≤ 99 * (i : Int)) (wnI I w) 0 0 (by
    intro i a h1 h2 ⟨h3, h4⟩
    have := A i (by omega)
    split
    · rw [i_add (by omega) (by omega)]
      omega
    · omega) (by rw [k0]; omega)
  unfold wsI
  omega
theorem fr_bd {hour warm : Int32} (hX : WX I w fi) : -990 ≤ (frI I w hour warm).toInt ∧ (frI I w hour warm).toInt ≤ 990 := by
  have h1 := ws_bd (which := 0) (hour := hour) (warm := warm) hX
  have h2 := ws_bd (which := 1) (hour := hour) (warm := warm) hX
  unfold frI
  rw [i_sub (by omega) (by omega)]
  omega
theorem cold_bd {kind v hour frost : Int32} (hv : 0 ≤ v.toInt ∧ v.toInt ≤ 9) (hf : -2000 ≤ frost.toInt ∧ frost.toInt ≤ 2000) : -3000 ≤ (coldI kind v hour frost).toInt ∧ (coldI kind v hour frost).toInt ≤ 3000 := by
  have e1 : (frost - v).toInt = frost.toInt - v.toInt := i_sub (by omega) (by omega)
  have e2 : (frost + v).toInt = frost.toInt + v.toInt := i_add (by omega) (by omega)
  unfold coldI
  split
  · rw [e1]; omega
  · split
    · split
      · rw [e1]; omega
      · omega
    · split
      · split
        · rw [e2]; omega
        · omega
      · omega
theorem lt_bd {i : Nat} : 0 ≤ (ltI I i).toInt ∧ (ltI I i).toInt ≤ 3 := by
  have h3 : (3 : Int32).toInt = 3 := rfl
  unfold ltI
  split
  · rw [k0]; omega
  · split
    · rw [h3]; omega
    · split
      · rw [h3]; omega
      · rw [k0]; omega
/-- what an hour of the reference makes -/
def stM (I : Nat → Nat → Int32) (w : Nat) (hour warm : Int32) (T : Nat → T3) : Nat → T3 := fun k => passT (I 7 k) (I 8 k) (coldI (I 7 k) (I 8 k) hour (frI I w hour warm - ltI I k)) (wsI I w 2 hour warm) (T k)
/-- what the reference's hours ask -/
def MC (I : Nat → Nat → Int32) : Prop := I 87 = I 7 ∧ I 88 = I 8 ∧ ∀ k, k < 16 → 0 ≤ (I 8 k).toInt ∧ (I 8 k).toInt ≤ 9
def Tok (T : Nat → T3) : Prop := ∀ k, k < 16 → T3ok (T k)
theorem stM_ok {hour warm : Int32} (hX : WX I w fi) (hM : MC I) (hT : Tok T) : Tok (stM I w hour warm T) := by
  intro k hk
  have h1 := fr_bd (hour := hour) (warm := warm) hX
  have h2 := lt_bd (I := I) (i := k)
  have h3 := ws_bd (which := 2) (hour := hour) (warm := warm) hX
  have e : (frI I w hour warm - ltI I k).toInt = (frI I w hour warm).toInt - (ltI I k).toInt := i_sub (by omega) (by omega)
  have h4 := cold_bd (kind := I 7 k) (hour := hour) (hM.2.2 k hk) (frost := frI I w hour warm - ltI I k) (by omega)
  exact passT_ok (hT k hk) (by omega) (by omega)
theorem WX_fr (h91 : I' 91 = I 91) (h92 : I' 92 = I 92) (h93 : I' 93 = I 93) (h94 : I' 94 = I 94) (h95 : I' 95 = I 95) (h96 : I' 96 = I 96) (hf : ∀ i, i < 5 → I' (w + i) = I (w + i)) (h : WX I w fi) : WX I' w fi := by
  rcases h with ⟨e, rfl, h0⟩ | ⟨f, h5, e, rfl, h1⟩
  · exact Or.inl ⟨e, rfl, by rw [show I' 26 = I 26 from hf 0 (by omega)]; exact h0⟩
  · exact Or.inr ⟨f, h5, e, rfl, WR_fr h91 h92 h93 h94 h95 h96 hf h1⟩
theorem fr_WX {L : List Nat} (hL : L.all (fun q => q ≤ 25 || (31 ≤ q && q < 45) || (70 ≤ q && q < 91) || 97 ≤ q) = true) (hf : pm_fr L I I') (h : WX I w fi) : WX I' w fi := by
  have hL' : L.all (fun q => q ≤ 25 || (31 ≤ q && q < 45) || 70 ≤ q) = true := by
    rw [List.all_eq_true] at hL ⊢
    intro q hq
    have := hL q hq
    simp at this ⊢
    omega
  have hx : ∀ q, 91 ≤ q → q ≤ 96 → I' q = I q := by
    intro q h1 h2
    refine hf q ?_
    cases hq : L.contains q with
    | false => rfl
    | true =>
      have := List.all_eq_true.mp hL q (by simpa using hq)
      simp at this
      omega
  exact WX_fr (hx _ (by omega) (by omega)) (hx _ (by omega) (by omega)) (hx _ (by omega) (by omega)) (hx _ (by omega) (by omega)) (hx _ (by omega) (by omega)) (hx _ (by omega) (by omega)) (fun i hi => fr_W hL' hf (WX_is h) hi) h
theorem MS_fr : pm_fr [82, 98, 99, 100, 101] I (MS I T n p) := by
  intro q hq
  have h : ¬ q = 82 ∧ ¬ q = 98 ∧ ¬ q = 99 ∧ ¬ q = 100 ∧ ¬ q = 101 := by simpa using hq
  unfold MS
  rw [upC_at h.2.2.1 h.2.2.2.1 h.2.2.2.2, pu_ne h.2.1, pw_ne h.1]
theorem MS_82 : MS I T n p 82 = upd (I 82) 26 n := by
  unfold MS
  rw [upC_at (by decide) (by decide) (by decide), pu_ne (by decide), pw_eq]
theorem MS_98 : MS I T n p = pm_up (upC (pm_w I 82 26 n) 99 100 101 T 16) 98 p := by
  funext q k
  unfold MS upC pm_up
  by_cases h : q = 98
  · subst h
    simp
  · simp [h]
theorem MS_98' {p' : Nat → Int32} : pm_up (upC (pm_w I 82 26 n) 99 100 101 T 16) 98 p' = MS I T n p' := MS_98.symm
theorem K_M_isWarm {h : Int32} : pm_cl X (d + 2) 135 [.ref 82, .int h] (pm_S0 ++ g, I, J) P = P (some (.int (if dayI h < 10 ∧ I 82 1 >>> (dayI h &&& 31) &&& 1 = 1 then 1 else 0)), (pm_S0 ++ g, I, J)) := by
  refine K_of (k := 1) (fun d' => ?_)
  show pm_V X (d' + 1) 135 0 [some (.ref 82), some (.int h), none] [] (pm_S0 ++ g, I, J) _
  simp only [e_M_isWarm_0, e_M_isWarm_1, e_M_isWarm_3, e_M_isWarm_4, e_M_isWarm_6, e_M_isWarm_7, e_M_isWarm_8, e_M_isWarm_9, e_M_isWarm_11, e_M_isWarm_14, e_M_isWarm_15, e_M_isWarm_16, e_M_isWarm_19, e_M_isWarm_20, e_M_isWarm_23, e_M_isWarm_26, e_M_isWarm_27, e_M_isWarm_30, e_M_isWarm_31, sh_o_82, q24, qh0, day_d, K_M_has, pm_opt_some, pm_opt_none, pm_opt_if, Bool.false_eq_true, Bool.not_false, Bool.not_true, if_false, if_true, true_and, and_true, true_or, or_true, not_true_eq_false, not_false_eq_true, q10, q00, q01, q11, pk_v, pk_i, pk_l, pk_r]
  by_cases q1 : 10 ≤ dayI h
  · have q2 : ¬ dayI h < 10 := Int32.not_lt.mpr q1
    simp [q1, q2]
  · have q2 : dayI h < 10 := Int32.not_le.mp q1
    by_cases q3 : I 82 1 >>> (dayI h &&& 31) &&& 1 = 1
    · simp [q1, q2, q3]
    · simp [q1, q2, q3]
theorem K_M_goHour {warm : Int32} (hX : WX I w fi) (hM : MC I) (hT : Tok T) (hw : warm = 0 ∨ warm = 1) : ∃ p', ∀ (d : Nat) (P : pm_O → Prop), pm_cl X (d + 6) 144 [.ref 82, .int fi, .int warm] (pm_S0 ++ g, MS I T n p, J) P = P (none, (pm_S0 ++ g, MS I (stM I w n warm T) (n + 1) p', J)) := by
  have hf : pm_fr [82, 99, 100, 101] I (upC (pm_w I 82 26 n) 99 100 101 T 16) := by
    intro q hq
    have h : ¬ q = 82 ∧ ¬ q = 99 ∧ ¬ q = 100 ∧ ¬ q = 101 := by simpa using hq
    rw [upC_at h.2.1 h.2.2.1 h.2.2.2, pw_ne h.1]
  have hX' := fr_WX (by decide) hf hX
  have isw := WX_is hX
  obtain ⟨p1, h1⟩ := K_M_frostOf (X := X) (g := g) (J := J) (hour := n) (warm := warm) (p := p) hX' hw
  obtain ⟨p2, h2⟩ := K_M_sumOf (X := X) (g := g) (J := J) (which := 2) (hour := n) (warm := warm) (p := p1) hX' hw (by decide)
  have ef : frI (upC (pm_w I 82 26 n) 99 100 101 T 16) w n warm = frI I w n warm := by
    unfold frI
    rw [fr_ws (by decide) hf isw, fr_ws (by decide) hf isw]
  rw [ef] at h1
  rw [fr_ws (by decide) hf isw] at h2
  simp only [MS_98'] at h1 h2
  have hr : ∀ p, MS I T n p 82 26 = n := fun p => by rw [MS_82]; simp [upd]
  refine ⟨p2, fun d P => ?_⟩
  -- the cells
  have L := fun (d : Nat) (Q : pm_O → Prop) => pm_lpR (fun k (l6 : Option Value) => pm_V X (d + 5) 144 27 [some (.ref 82), some (.int fi), some (.int warm), some (.int (frI I w n warm)), some (.int (wsI I w 2 n warm)), some (.int (nI k)), l6] [] (pm_S0 ++ g, upC (MS I T n p2) 99 100 101 (stM I w n warm T) k, J) Q) (fun _ _ => True) 16 (by
    intro k l6 hk _
    have hb := bad_nI (k := k) (n := 16) hk (by decide)
    have hc := nI_clamp (n := k) (by omega)
    have h16 : ((16 : Int32) ≤ nI k) = False := by
      rw [show (16 : Int32) = nI 16 from rfl, nI_le_l (by omega) (by omega)]
      exact eq_false (by omega)
    have at7 : ∀ q, ¬ q = 82 → ¬ q = 98 → ¬ q = 99 → ¬ q = 100 → ¬ q = 101 → upC (MS I T n p2) 99 100 101 (stM I w n warm T) k q = I q := by
      intro q a1 a2 a3 a4 a5
      funext i
      rw [upC_ne a3 a4 a5, MS_fr q (by simp [a1, a2, a3, a4, a5])]
    have at82 : upC (MS I T n p2) 99 100 101 (stM I w n warm T) k 82 = upd (I 82) 26 n := by
      funext i
      rw [upC_ne (by decide) (by decide) (by decide), MS_82]
    have elt : ltI (upC (MS I T n p2) 99 100 101 (stM I w n warm T) k) k = ltI I k := ltI_fr (by rw [at82]; rfl)
    have e26 : upC (MS I T n p2) 99 100 101 (stM I w n warm T) k 82 26 = n := by
      rw [at82]
      simp [upd]
    have eT : (upC (MS I T n p2) 99 100 101 (stM I w n warm T) k 99 k, upC (MS I T n p2) 99 100 101 (stM I w n warm T) k 100 k, upC (MS I T n p2) 99 100 101 (stM I w n warm T) k 101 k) = T k := by
      rw [upC_ge (Nat.le_refl k), upC_ge (Nat.le_refl k), upC_ge (Nat.le_refl k)]
      exact upC_rd (I := pm_up (pm_w I 82 26 n) 98 p2) (by decide) (by decide) (by decide) hk
    refine ⟨some (.int (coldI (I 7 k) (I 8 k) n (frI I w n warm - ltI I k))), trivial, ?_⟩
    have hx : upC (MS I T n p2) 99 100 101 (stM I w n warm T) k = pm_t (upC (MS I T n p2) 99 100 101 (stM I w n warm T) k) 99 100 101 k (T k) := by
      rw [← eT]
      exact (p3_id (by decide) (by decide) (by decide)).symm
    have hfb := fr_bd (hour := n) (warm := warm) hX
    have hlb := lt_bd (I := I) (i := k)
    have hwb := ws_bd (which := 2) (hour := n) (warm := warm) hX
    have esub : (frI I w n warm - ltI I k).toInt = (frI I w n warm).toInt - (ltI I k).toInt := i_sub (by omega) (by omega)
    have hcb := cold_bd (kind := I 7 k) (hour := n) (hM.2.2 k hk) (frost := frI I w n warm - ltI I k) (by omega)
    have C := C_M_cell (X := X) (d := d + 2) (Q := Q) (g := g) (J := J) (f := fi) (warm := warm) (frost := frI I w n warm) (falls := wsI I w 2 n warm) (l6 := l6) (I := upC (MS I T n p2) 99 100 101 (stM I w n warm T) k) (j := k) (t := T k) (by rw [at7 87 (by decide) (by decide) (by decide) (by decide) (by decide), at7 7 (by decide) (by decide) (by decide) (by decide) (by decide)]; exact hM.1) (by rw [at7 88 (by decide) (by decide) (by decide) (by decide) (by decide), at7 8 (by decide) (by decide) (by decide) (by decide) (by decide)]; exact hM.2.1) hk (hT k hk) (by omega) (by rw [at7 7 (by decide) (by decide) (by decide) (by decide) (by decide), at7 8 (by decide) (by decide) (by decide) (by decide) (by decide), elt, e26]; omega)
    rw [at7 7 (by decide) (by decide) (by decide) (by decide) (by decide), at7 8 (by decide) (by decide) (by decide) (by decide) (by decide), elt, e26, ← hx] at C
    have es := upC_s (I := MS I T n p2) (n := k) (f := stM I w n warm T) (a := 99) (b := 100) (c := 101) (by decide) (by decide) (by decide)
    have es' : pm_t (upC (MS I T n p2) 99 100 101 (stM I w n warm T) k) 99 100 101 k (passT (I 7 k) (I 8 k) (coldI (I 7 k) (I 8 k) n (frI I w n warm - ltI I k)) (wsI I w 2 n warm) (T k)) = upC (MS I T n p2) 99 100 101 (stM I w n warm T) (k + 1) := es
    rw [es'] at C
    show pm_V X (d + 5) 144 27 [some (.ref 82), some (.int fi), some (.int warm), some (.int (frI I w n warm)), some (.int (wsI I w 2 n warm)), some (.int (nI k)), l6] [] (pm_S0 ++ g, upC (MS I T n p2) 99 100 101 (stM I w n warm T) k, J) Q = _
    rw [e_M_goHour_27]
    simp only [e_M_goHour_29, e_M_goHour_31, h16, if_false]
    rw [C]
    simp only [e_M_goHour_184, e_M_goHour_187, nI_1]) 16 0 none (by omega) trivial
  refine K_of (k := 5) (fun d' => ?_)
  show pm_V X (d' + 5) 144 0 [some (.ref 82), some (.int fi), some (.int warm), none, none, none, none] [] (pm_S0 ++ g, MS I T n p, J) _
  have h1' := h1 d'
  have h2' := h2 (d' + 1)
  obtain ⟨l6, _, L'⟩ := L d' (fun q => q = (none, (pm_S0 ++ g, MS I (stM I w n warm T) (n + 1) p2, J)))
  rw [upC_0, nI_0] at L'
  have h16 : ((16 : Int32) ≤ nI 16) = True := by decide
  simp only [e_M_goHour_0, e_M_goHour_1, e_M_goHour_2, e_M_goHour_3, e_M_goHour_6, e_M_goHour_7, e_M_goHour_10, e_M_goHour_11, e_M_goHour_12, e_M_goHour_13, e_M_goHour_14, e_M_goHour_15, e_M_goHour_18, e_M_goHour_19, e_M_goHour_22, e_M_goHour_24, e_M_goHour_25, e_M_goHour_29, e_M_goHour_31, e_M_goHour_35, e_M_goHour_38, e_M_goHour_40, e_M_goHour_41, e_M_goHour_42, e_M_goHour_45, e_M_goHour_47, e_M_goHour_48, e_M_goHour_49, e_M_goHour_52, e_M_goHour_53, e_M_goHour_56, e_M_goHour_58, e_M_goHour_59, e_M_goHour_61, e_M_goHour_62, e_M_goHour_65, e_M_goHour_67, e_M_goHour_68, e_M_goHour_70, e_M_goHour_71, e_M_goHour_74, e_M_goHour_75, e_M_goHour_76, e_M_goHour_78, e_M_goHour_79, e_M_goHour_82, e_M_goHour_83, e_M_goHour_86, e_M_goHour_88, e_M_goHour_90, e_M_goHour_93, e_M_goHour_94, e_M_goHour_96, e_M_goHour_98, e_M_goHour_101, e_M_goHour_103, e_M_goHour_106, e_M_goHour_107, e_M_goHour_109, e_M_goHour_111, e_M_goHour_112, e_M_goHour_115, e_M_goHour_116, e_M_goHour_119, e_M_goHour_121, e_M_goHour_122, e_M_goHour_123, e_M_goHour_126, e_M_goHour_127, e_M_goHour_130, e_M_goHour_132, e_M_goHour_133, e_M_goHour_134, e_M_goHour_135, e_M_goHour_138, e_M_goHour_140, e_M_goHour_141, e_M_goHour_143, e_M_goHour_146, e_M_goHour_148, e_M_goHour_149, e_M_goHour_150, e_M_goHour_153, e_M_goHour_155, e_M_goHour_156, e_M_goHour_157, e_M_goHour_160, e_M_goHour_161, e_M_goHour_164, e_M_goHour_166, e_M_goHour_167, e_M_goHour_168, e_M_goHour_169, e_M_goHour_172, e_M_goHour_174, e_M_goHour_175, e_M_goHour_176, e_M_goHour_177, e_M_goHour_180, e_M_goHour_182, e_M_goHour_183, e_M_goHour_187, e_M_goHour_190, e_M_goHour_191, e_M_goHour_192, e_M_goHour_195, e_M_goHour_196, e_M_goHour_197, e_M_goHour_200, sh_o_82, hr, h1', h2', pm_opt_some, pm_opt_none, pm_opt_if, Bool.false_eq_true, Bool.not_false, Bool.not_true, if_false, if_true, true_and, and_true, true_or, or_true, not_true_eq_false, not_false_eq_true, q10, q00, q01, q11, pk_v, pk_i, pk_l, pk_r]
  rw [L']
  have e26 : upC (MS I T n p2) 99 100 101 (stM I w n warm T) 16 82 26 = n := by
    rw [upC_at (by decide) (by decide) (by decide)]
    exact hr p2
  simp only [e_M_goHour_0, e_M_goHour_1, e_M_goHour_2, e_M_goHour_3, e_M_goHour_6, e_M_goHour_7, e_M_goHour_10, e_M_goHour_11, e_M_goHour_12, e_M_goHour_13, e_M_goHour_14, e_M_goHour_15, e_M_goHour_18, e_M_goHour_19, e_M_goHour_22, e_M_goHour_24, e_M_goHour_25, e_M_goHour_27, e_M_goHour_29, e_M_goHour_31, e_M_goHour_35, e_M_goHour_38, e_M_goHour_40, e_M_goHour_41, e_M_goHour_42, e_M_goHour_45, e_M_goHour_47, e_M_goHour_48, e_M_goHour_49, e_M_goHour_52, e_M_goHour_53, e_M_goHour_56, e_M_goHour_58, e_M_goHour_59, e_M_goHour_61, e_M_goHour_62, e_M_goHour_65, e_M_goHour_67, e_M_goHour_68, e_M_goHour_70, e_M_goHour_71, e_M_goHour_74, e_M_goHour_75, e_M_goHour_76, e_M_goHour_78, e_M_goHour_79, e_M_goHour_82, e_M_goHour_83, e_M_goHour_86, e_M_goHour_88, e_M_goHour_90, e_M_goHour_93, e_M_goHour_94, e_M_goHour_96, e_M_goHour_98, e_M_goHour_101, e_M_goHour_103, e_M_goHour_106, e_M_goHour_107, e_M_goHour_109, e_M_goHour_111, e_M_goHour_112, e_M_goHour_115, e_M_goHour_116, e_M_goHour_119, e_M_goHour_121, e_M_goHour_122, e_M_goHour_123, e_M_goHour_126, e_M_goHour_127, e_M_goHour_130, e_M_goHour_132, e_M_goHour_133, e_M_goHour_134, e_M_goHour_135, e_M_goHour_138, e_M_goHour_140, e_M_goHour_141, e_M_goHour_143, e_M_goHour_146, e_M_goHour_148, e_M_goHour_149, e_M_goHour_150, e_M_goHour_153, e_M_goHour_155, e_M_goHour_156, e_M_goHour_157, e_M_goHour_160, e_M_goHour_161, e_M_goHour_164, e_M_goHour_166, e_M_goHour_167, e_M_goHour_168, e_M_goHour_169, e_M_goHour_172, e_M_goHour_174, e_M_goHour_175, e_M_goHour_176, e_M_goHour_177, e_M_goHour_180, e_M_goHour_182, e_M_goHour_183, e_M_goHour_187, e_M_goHour_190, e_M_goHour_191, e_M_goHour_192, e_M_goHour_195, e_M_goHour_196, e_M_goHour_197, e_M_goHour_200, sh_o_82, h16, e26, pm_opt_some, pm_opt_none, pm_opt_if, Bool.false_eq_true, Bool.not_false, Bool.not_true, if_false, if_true, true_and, and_true, true_or, or_true, not_true_eq_false, not_false_eq_true, q10, q00, q01, q11, pk_v, pk_i, pk_l, pk_r]
  congr 3
  unfold MS
  rw [upC_upC]
  funext q k
  rw [pm_w_app]
  by_cases q1 : q = 82
  · subst q1
    rw [upC_at (by decide) (by decide) (by decide), upC_at (by decide) (by decide) (by decide), pu_ne (by decide), pu_ne (by decide), pm_w_app, pm_w_app]
    by_cases q2 : k = 26
    · simp [q2]
    · simp [q2]
  · have e : ∀ v, pm_w I 82 26 v q = I q := fun v => pw_ne q1
    unfold upC pm_up
    simp only [q1, false_and, if_false, e]
theorem K_M_thick (hj : j < 16) : pm_cl X (d + 1) 139 [.ref 82, .int (nI j)] (pm_S0 ++ g, I, J) P = P (some (.int (I 99 j + I 100 j / 2)), (pm_S0 ++ g, I, J)) := by
  have hb := bad_nI (k := j) (n := 16) hj (by decide)
  have hc := nI_clamp (n := j) (by omega)
  refine K_of (k := 0) (fun d' => ?_)
  show pm_V X d' 139 0 [some (.ref 82), some (.int (nI j))] [] (pm_S0 ++ g, I, J) _
  simp only [e_M_thick_0, e_M_thick_1, e_M_thick_4, e_M_thick_5, e_M_thick_6, e_M_thick_7, e_M_thick_10, e_M_thick_11, e_M_thick_12, e_M_thick_13, e_M_thick_14, e_M_thick_15, sh_r_82_28, sh_r_82_29, sh_i_99, sh_i_100, hb, hc, q20, pm_opt_some, pm_opt_none, pm_opt_if, Bool.false_eq_true, Bool.not_false, Bool.not_true, if_false, if_true, true_and, and_true, true_or, or_true, not_true_eq_false, not_false_eq_true, q10, q00, q01, q11, pk_v, pk_i, pk_l, pk_r]
theorem K_M_thickT (hj : j < 16) : pm_cl X (d + 1) 139 [.ref 82, .int (nI j)] (pm_S0 ++ g, MS I T n p, J) P = P (some (.int (thT (T j))), (pm_S0 ++ g, MS I T n p, J)) := by
  rw [K_M_thick hj]
  have := upC_rd (I := pm_up (pm_w I 82 26 n) 98 p) (T := T) (a := 99) (b := 100) (c := 101) (by decide) (by decide) (by decide) hj
  unfold thT
  rw [← this]
  rfl
end P34
