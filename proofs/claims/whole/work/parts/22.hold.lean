/-! which WINTER holds, which DAY is WARM, an hour, hours -/
section P22
variable {X : pm_X} {d : Nat} {P Q : pm_O → Prop} {g : List pm_S} {I : Nat → Nat → Int32} {J : Nat → Nat → Int64} {o a b c j : Nat}
theorem K_B_holdW {k : Nat} (hk : k < 5) (h : I 1 11 = nI k) : pm_cl X (d + 3) 50 [.ref 0] (pm_S0 ++ g, I, J) P = P (some (.ref (45 + 5 * k)), (pm_S0 ++ g, I, J)) := by
  refine K_of (k := 2) (fun d' => ?_)
  show pm_V X (d' + 2) 50 0 [some (.ref 0)] [] (pm_S0 ++ g, I, J) _
  have hw : (0 : Int32) ≤ nI k ∧ nI k ≤ 4 := ⟨nI_pos' (by omega), by rw [show (4 : Int32) = nI 4 from rfl, nI_leI (by omega) (by decide)]; omega⟩
  have hb := bad_nI (k := k) (n := 5) hk (by decide)
  have hc := nI_clamp (n := k) (by omega)
  simp only [e_B_holding_0, e_B_holding_1, e_B_holding_4, e_B_holding_7, e_B_holding_8, e_B_holding_9, e_B_holding_12, e_B_holding_15, e_B_holding_16, e_B_holding_19, e_B_holding_20, e_B_holding_23, e_B_holding_26, e_B_holding_27, e_B_holding_30, e_B_holding_31, e_B_holding_34, sh_r_0_0, sh_r_0_6, sh_o_1, sh_i_31, pm_opt_some, pm_opt_if, true_and, h, K_B_isWithin, hw, and_self, if_true, pk_i, q10, if_false, hb, hc]
  match k, hk with
  | 0, _ => simp [pm_rf, e_B_holding_27, e_B_holding_34]
  | 1, _ => simp [pm_rf, e_B_holding_27, e_B_holding_34]
  | 2, _ => simp [pm_rf, e_B_holding_27, e_B_holding_34]
  | 3, _ => simp [pm_rf, e_B_holding_27, e_B_holding_34]
  | 4, _ => simp [pm_rf, e_B_holding_27, e_B_holding_34]
theorem K_B_holdN (h : ¬ (0 ≤ I 1 11 ∧ I 1 11 ≤ 4)) : pm_cl X (d + 3) 50 [.ref 0] (pm_S0 ++ g, I, J) P = P (some (.ref 26), (pm_S0 ++ g, I, J)) := by
  refine K_of (k := 2) (fun d' => ?_)
  show pm_V X (d' + 2) 50 0 [some (.ref 0)] [] (pm_S0 ++ g, I, J) _
  simp only [e_B_holding_0, e_B_holding_1, e_B_holding_4, e_B_holding_7, e_B_holding_8, e_B_holding_9, e_B_holding_12, e_B_holding_15, e_B_holding_16, e_B_holding_19, e_B_holding_20, e_B_holding_23, e_B_holding_26, e_B_holding_27, e_B_holding_30, e_B_holding_31, e_B_holding_34, sh_r_0_0, sh_r_0_5, sh_r_0_6, sh_o_1, pm_opt_some, true_and, K_B_isWithin, h, if_false, pk_i, q00, if_true]
/-- is the DAY of an hour WARM, as told -/
def dayI (h : Int32) : Int32 := h / 24 - h / 24 / 100 * 100
def warmI (w h : Int32) : Prop := dayI h < 10 ∧ w >>> (dayI h &&& 31) &&& 1 = 1
theorem qh0 : ((100 : Int32) = 0) = False := by decide
theorem day_d (h : Int32) : h / 24 - h / 24 / 100 * 100 = dayI h := rfl
theorem K_B_isWarm {h : Int32} : pm_cl X (d + 1) 51 [.ref 0, .int h] (pm_S0 ++ g, I, J) P = P (some (.int (if dayI h < 10 ∧ I 1 5 >>> (dayI h &&& 31) &&& 1 = 1 then 1 else 0)), (pm_S0 ++ g, I, J)) := by
  refine K_of (k := 0) (fun d' => ?_)
  show pm_V X d' 51 0 [some (.ref 0), some (.int h), none] [] (pm_S0 ++ g, I, J) _
  simp only [e_B_isWarm_0, e_B_isWarm_1, e_B_isWarm_3, e_B_isWarm_4, e_B_isWarm_6, e_B_isWarm_7, e_B_isWarm_8, e_B_isWarm_9, e_B_isWarm_11, e_B_isWarm_14, e_B_isWarm_15, e_B_isWarm_18, e_B_isWarm_21, e_B_isWarm_22, e_B_isWarm_23, e_B_isWarm_24, e_B_isWarm_25, e_B_isWarm_26, e_B_isWarm_29, e_B_isWarm_30, e_B_isWarm_33, e_B_isWarm_34, sh_r_0_0, sh_o_1, pm_opt_some, true_and, q24, qh0, not_false_eq_true, day_d]
  by_cases q1 : 10 ≤ dayI h
  · have q2 : ¬ dayI h < 10 := Int32.not_lt.mpr q1
    simp [q1, q2]
  · have q2 : dayI h < 10 := Int32.not_le.mp q1
    by_cases q3 : I 1 5 >>> (dayI h &&& 31) &&& 1 = 1
    · simp [q1, q2, q3]
    · simp [q1, q2, q3]
/-- an hour: the WINTER's numbers are asked once -/
theorem K_B_passHour {w : Nat} {hour warm heat fr fa : Int32} (h : iceAt (pm_S0 ++ g) o a b c) (h7 : 7 ≠ a ∧ 7 ≠ b ∧ 7 ≠ c) (h8 : 8 ≠ a ∧ 8 ≠ b ∧ 8 ≠ c) (hw : pm_isO (pm_S0 ++ g) w 3 = true)
    (hF : ∀ (d : Nat) (P : pm_O → Prop), pm_cl X (d + 6) 73 [.ref w, .int hour, .int warm] (pm_S0 ++ g, I, J) P = P (some (.int fr), (pm_S0 ++ g, I, J)))
    (hL : ∀ (d : Nat) (P : pm_O → Prop), pm_cl X (d + 6) 74 [.ref w, .int hour, .int warm] (pm_S0 ++ g, I, J) P = P (some (.int fa), (pm_S0 ++ g, I, J))) :
    pm_cl X (d + 8) 53 [.ref 0, .ref o, .ref w, .int hour, .int warm, .int heat] (pm_S0 ++ g, I, J) P = P (none, (pm_S0 ++ g, upC I a b c (hourF I a b c hour (fr - heat) fa) 16, J)) := by
  refine K_of (k := 7) (fun d' => ?_)
  show pm_V X (d' + 7) 53 0 [some (.ref 0), some (.ref o), some (.ref w), some (.int hour), some (.int warm), some (.int heat), none, none, none] [] (pm_S0 ++ g, I, J) _
  have hF' := hF (d' + 1)
  have hL' := hL (d' + 1)
  simp only [Nat.add_assoc] at hF' hL'
  simp only [e_B_passHour_0, e_B_passHour_1, e_B_passHour_2, e_B_passHour_4, e_B_passHour_7, e_B_passHour_9, e_B_passHour_10, e_B_passHour_12, e_B_passHour_13, e_B_passHour_14, e_B_passHour_16, e_B_passHour_19, e_B_passHour_21, e_B_passHour_22, e_B_passHour_26, e_B_passHour_28, e_B_passHour_31, e_B_passHour_32, e_B_passHour_34, e_B_passHour_35, e_B_passHour_38, e_B_passHour_41, e_B_passHour_43, e_B_passHour_44, e_B_passHour_45, e_B_passHour_48, e_B_passHour_51, e_B_passHour_53, e_B_passHour_54, e_B_passHour_55, e_B_passHour_58, e_B_passHour_60, e_B_passHour_61, e_B_passHour_63, e_B_passHour_66, e_B_passHour_68, e_B_passHour_71, e_B_passHour_74, e_B_passHour_77, hw, true_and, hF', hL', pk_i]
  have := L_B_passHour (X := X) (I := I) (d := d') (Q := fun q => q = (none, (pm_S0 ++ g, upC I a b c (hourF I a b c hour (fr - heat) fa) 16, J))) (J := J) (w := w) (warm := warm) (heat := heat) (frost := fr - heat) (falls := fa) (hour := hour) h h7 h8 16 0 (by omega)
  rw [upC_0, nI_0] at this
  exact this.mpr rfl
end P22
