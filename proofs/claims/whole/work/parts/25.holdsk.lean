/-! a clause holds: the contract -/
def frE (en : Nat → Nat) (c : Nat) : Nat := if c = 0 then 0 else en (c - 1)
section P25
variable {X : pm_X} {d : Nat} {P Q : pm_O → Prop} {S : List pm_S} {I : Nat → Nat → Int32} {J : Nat → Nat → Int64} {w c : Nat}
def holdsC (code : Nat → Int32) (en : Nat → Nat) (c : Nat) (hour warm : Int32) : Bool := decide (evC code hour warm (frE en c) (en c - frE en c) 0 &&& 1 = 1)
theorem V_W_holds {hour warm : Int32} {en : Nat → Nat} (h : winAt S w) (hc : c < 10) (he : ∀ k, k ≤ c → I (w + 3) k = nI (en k) ∧ en k ≤ 100) (hm : frE en c ≤ en c) : pm_V X (d + 2) 80 0 [some (.ref w), some (.int (nI c)), some (.int hour), some (.int warm), none, none, none] [] (S, I, J) Q = if holdsC (I (w + 4)) en c hour warm = true then Q (some (.int 1), (S, I, J)) else Q (some (.int 0), (S, I, J)) := by
  have H := h
  obtain ⟨ho, r0, r1, r2, r4, s1, s2, s3, s4⟩ := h
  have L := fun (Q : pm_O → Prop) => L_W_holds (X := X) (d := d) (Q := Q) (I := I) (J := J) (hour := hour) (warm := warm) H hc (he c (Nat.le_refl c)).1 (he c (Nat.le_refl c)).2 (en c - frE en c) (frE en c) 0 none (by omega)
  have eD : (holdsC (I (w + 4)) en c hour warm = true) = (evC (I (w + 4)) hour warm (frE en c) (en c - frE en c) 0 &&& 1 = 1) := by
    unfold holdsC
    simp
  simp only [eD]
  rw [← L]
  cases c with
  | zero =>
    have e0 : (nI 0 = 0) = True := by decide
    simp only [e_W_holds_0, e_W_holds_1, e_W_holds_3, e_W_holds_4, e_W_holds_7, e_W_holds_8, e_W_holds_11, e_W_holds_12, e_W_holds_15, e_W_holds_16, e_W_holds_17, e_W_holds_18, e_W_holds_19, e_W_holds_23, e_W_holds_24, e_W_holds_27, e_W_holds_28, e_W_holds_29, e_W_holds_32, e_W_holds_33, e_W_holds_36, e_W_holds_38, e_W_holds_39, e_W_holds_41, e_W_holds_43, e_W_holds_44, e_W_holds_47, e_W_holds_49, e_W_holds_50, e_W_holds_51, e_W_holds_53, e_W_holds_56, e_W_holds_58, e_W_holds_60, e_W_holds_63, e_W_holds_65, e_W_holds_66, e_W_holds_67, e_W_holds_69, e_W_holds_71, e_W_holds_72, e_W_holds_73, e_W_holds_75, e_W_holds_78, e_W_holds_80, e_W_holds_82, e_W_holds_85, e_W_holds_87, e_W_holds_88, e_W_holds_89, e_W_holds_91, e_W_holds_92, e_W_holds_93, e_W_holds_94, e_W_holds_96, e_W_holds_99, e_W_holds_101, e_W_holds_102, e_W_holds_103, e_W_holds_105, e_W_holds_106, e_W_holds_107, e_W_holds_110, e_W_holds_113, e_W_holds_114, e_W_holds_117, e_W_holds_118, e_W_holds_119, e_W_holds_121, e_W_holds_124, e_W_holds_127, e_W_holds_129, e_W_holds_130, e_W_holds_131, e_W_holds_132, e_W_holds_135, e_W_holds_136, e_W_holds_139, e_W_holds_140, e0, not_true_eq_false, if_false, frE, if_true]
    rfl
  | succ c =>
    have hne : (nI (c + 1) = 0) = False := eq_false (nI_ne0 (by omega) (by omega))
    have hb := bad_nI (k := c) (n := 10) (by omega) (by decide)
    have hcc := nI_clamp (n := c) (by omega)
    have hp : nI (c + 1) - 1 = nI c := nI_pred c
    simp only [e_W_holds_0, e_W_holds_1, e_W_holds_3, e_W_holds_4, e_W_holds_7, e_W_holds_8, e_W_holds_11, e_W_holds_12, e_W_holds_15, e_W_holds_16, e_W_holds_17, e_W_holds_18, e_W_holds_19, e_W_holds_23, e_W_holds_24, e_W_holds_27, e_W_holds_28, e_W_holds_29, e_W_holds_32, e_W_holds_33, e_W_holds_36, e_W_holds_38, e_W_holds_39, e_W_holds_41, e_W_holds_43, e_W_holds_44, e_W_holds_47, e_W_holds_49, e_W_holds_50, e_W_holds_51, e_W_holds_53, e_W_holds_56, e_W_holds_58, e_W_holds_60, e_W_holds_63, e_W_holds_65, e_W_holds_66, e_W_holds_67, e_W_holds_69, e_W_holds_71, e_W_holds_72, e_W_holds_73, e_W_holds_75, e_W_holds_78, e_W_holds_80, e_W_holds_82, e_W_holds_85, e_W_holds_87, e_W_holds_88, e_W_holds_89, e_W_holds_91, e_W_holds_92, e_W_holds_93, e_W_holds_94, e_W_holds_96, e_W_holds_99, e_W_holds_101, e_W_holds_102, e_W_holds_103, e_W_holds_105, e_W_holds_106, e_W_holds_107, e_W_holds_110, e_W_holds_113, e_W_holds_114, e_W_holds_117, e_W_holds_118, e_W_holds_119, e_W_holds_121, e_W_holds_124, e_W_holds_127, e_W_holds_129, e_W_holds_130, e_W_holds_131, e_W_holds_132, e_W_holds_135, e_W_holds_136, e_W_holds_139, e_W_holds_140, hne, not_false_eq_true, if_true, r2, pm_opt_some, pm_opt_if, ia_of s3, hp, hb, hcc, Bool.false_eq_true, if_false, true_and, (he c (by omega)).1, frE, Nat.succ_ne_zero, Nat.add_sub_cancel]
end P25
