/-! what must hold for a clause, class's side -/
def winAt (S : List pm_S) (w : Nat) : Prop := pm_isO S w 3 = true ∧ pm_rg S w 3 0 = some (.ref (w + 1)) ∧ pm_rg S w 3 1 = some (.ref (w + 2)) ∧ pm_rg S w 3 2 = some (.ref (w + 3)) ∧ pm_rg S w 3 4 = some (.ref (w + 4)) ∧ S[w + 1]? = some (1, 10, []) ∧ S[w + 2]? = some (1, 10, []) ∧ S[w + 3]? = some (1, 10, []) ∧ S[w + 4]? = some (1, 100, [])
def stepC (hour warm found part : Int32) : Int32 := if part = -1 then found ^^^ 1 else if part = -2 then (found >>> (1 &&& 31)) &&& (found ||| -2) else if part = -3 then (found >>> (1 &&& 31)) ||| (found &&& 1) else (found <<< (1 &&& 31)) ||| (if isSoI part hour warm = true then 1 else 0)
def evC (code : Nat → Int32) (hour warm : Int32) : Nat → Nat → Int32 → Int32
  | _, 0, found => found
  | i, n + 1, found => evC code hour warm (i + 1) n (stepC hour warm found (code i))
section P24
variable {X : pm_X} {d : Nat} {P Q : pm_O → Prop} {S : List pm_S} {I : Nat → Nat → Int32} {J : Nat → Nat → Int64} {w c : Nat}
theorem L_W_holds {hour warm : Int32} {i1 : Nat} (h : winAt S w) (hc : c < 10) (he : I (w + 3) c = nI i1) (h1 : i1 ≤ 100) : ∀ (n i : Nat) (found : Int32) (l6 : Option Value), i + n = i1 → pm_V X (d + 2) 80 21 [some (.ref w), some (.int (nI c)), some (.int hour), some (.int warm), some (.int found), some (.int (nI i)), l6] [] (S, I, J) Q = if evC (I (w + 4)) hour warm i n found &&& 1 = 1 then Q (some (.int 1), (S, I, J)) else Q (some (.int 0), (S, I, J)) := by
  obtain ⟨ho, r0, r1, r2, r4, s1, s2, s3, s4⟩ := h
  have hb := bad_nI (k := c) (n := 10) hc (by decide)
  have hcc := nI_clamp (n := c) (by omega)
  intro n
  induction n with
  | zero =>
    intro i found l6 hi
    obtain rfl : i = i1 := by omega
    rw [e_W_holds_21]
    simp only [e_W_holds_0, e_W_holds_1, e_W_holds_3, e_W_holds_4, e_W_holds_7, e_W_holds_8, e_W_holds_11, e_W_holds_12, e_W_holds_15, e_W_holds_16, e_W_holds_17, e_W_holds_18, e_W_holds_19, e_W_holds_23, e_W_holds_24, e_W_holds_27, e_W_holds_28, e_W_holds_29, e_W_holds_32, e_W_holds_33, e_W_holds_36, e_W_holds_38, e_W_holds_39, e_W_holds_41, e_W_holds_43, e_W_holds_44, e_W_holds_47, e_W_holds_49, e_W_holds_50, e_W_holds_51, e_W_holds_53, e_W_holds_56, e_W_holds_58, e_W_holds_60, e_W_holds_63, e_W_holds_65, e_W_holds_66, e_W_holds_67, e_W_holds_69, e_W_holds_71, e_W_holds_72, e_W_holds_73, e_W_holds_75, e_W_holds_78, e_W_holds_80, e_W_holds_82, e_W_holds_85, e_W_holds_87, e_W_holds_88, e_W_holds_89, e_W_holds_91, e_W_holds_92, e_W_holds_93, e_W_holds_94, e_W_holds_96, e_W_holds_99, e_W_holds_101, e_W_holds_102, e_W_holds_103, e_W_holds_105, e_W_holds_106, e_W_holds_107, e_W_holds_110, e_W_holds_113, e_W_holds_114, e_W_holds_117, e_W_holds_118, e_W_holds_119, e_W_holds_121, e_W_holds_124, e_W_holds_127, e_W_holds_129, e_W_holds_130, e_W_holds_131, e_W_holds_132, e_W_holds_135, e_W_holds_136, e_W_holds_139, e_W_holds_140, r2, r4, ia_of s3, ia_of s4, pm_opt_some, pm_opt_if, hb, hcc, Bool.false_eq_true, if_false, true_and, he, Int32.le_refl, if_true, evC]
    by_cases q : found &&& 1 = 1
    · simp [q]
    · simp [q]
  | succ n ih =>
    intro i found l6 hi
    have hlt : (nI i1 ≤ nI i) = False := by
      rw [nI_le_l (by omega) (by omega)]
      exact eq_false (by omega)
    have hb4 := bad_nI (k := i) (n := 100) (by omega) (by decide)
    have hci := nI_clamp (n := i) (by omega)
    rw [e_W_holds_21]
    simp only [e_W_holds_0, e_W_holds_1, e_W_holds_3, e_W_holds_4, e_W_holds_7, e_W_holds_8, e_W_holds_11, e_W_holds_12, e_W_holds_15, e_W_holds_16, e_W_holds_17, e_W_holds_18, e_W_holds_19, e_W_holds_23, e_W_holds_24, e_W_holds_27, e_W_holds_28, e_W_holds_29, e_W_holds_32, e_W_holds_33, e_W_holds_36, e_W_holds_38, e_W_holds_39, e_W_holds_41, e_W_holds_43, e_W_holds_44, e_W_holds_47, e_W_holds_49, e_W_holds_50, e_W_holds_51, e_W_holds_53, e_W_holds_56, e_W_holds_58, e_W_holds_60, e_W_holds_63, e_W_holds_65, e_W_holds_66, e_W_holds_67, e_W_holds_69, e_W_holds_71, e_W_holds_72, e_W_holds_73, e_W_holds_75, e_W_holds_78, e_W_holds_80, e_W_holds_82, e_W_holds_85, e_W_holds_87, e_W_holds_88, e_W_holds_89, e_W_holds_91, e_W_holds_92, e_W_holds_93, e_W_holds_94, e_W_holds_96, e_W_holds_99, e_W_holds_101, e_W_holds_102, e_W_holds_103, e_W_holds_105, e_W_holds_106, e_W_holds_107, e_W_holds_110, e_W_holds_113, e_W_holds_114, e_W_holds_117, e_W_holds_118, e_W_holds_119, e_W_holds_121, e_W_holds_124, e_W_holds_127, e_W_holds_129, e_W_holds_130, e_W_holds_131, e_W_holds_132, e_W_holds_135, e_W_holds_136, e_W_holds_139, e_W_holds_140, r2, r4, ia_of s3, ia_of s4, pm_opt_some, pm_opt_if, hb, hcc, hb4, hci, Bool.false_eq_true, if_false, true_and, he, hlt, nI_1, K_W_isSo, pk_i, ih (i + 1) _ _ (by omega), evC, q10, q00, if_true]
    unfold stepC
    by_cases q1 : I (w + 4) i = -1
    · simp [q1]
    · by_cases q2 : I (w + 4) i = -2
      · simp [q2]
      · by_cases q3 : I (w + 4) i = -3
        · simp [q3]
        · by_cases q4 : isSoI (I (w + 4) i) hour warm = true
          · simp [q1, q2, q3, q4]
          · simp [q1, q2, q3, q4]
end P24
