/-! COLD, who is warm, thick ice of the class's own cells -/
theorem ice_now {g : List pm_S} : iceAt (pm_S0 ++ g) 2 3 4 5 := ⟨rfl, rfl, rfl, rfl, rfl, rfl, rfl, by decide, by decide, by decide⟩
theorem ice_kept {g : List pm_S} : iceAt (pm_S0 ++ g) 14 15 16 17 := ⟨rfl, rfl, rfl, rfl, rfl, rfl, rfl, by decide, by decide, by decide⟩
theorem ice_ask {g : List pm_S} : iceAt (pm_S0 ++ g) 35 36 37 38 := ⟨rfl, rfl, rfl, rfl, rfl, rfl, rfl, by decide, by decide, by decide⟩
theorem ice_too {g : List pm_S} : iceAt (pm_S0 ++ g) 39 40 41 42 := ⟨rfl, rfl, rfl, rfl, rfl, rfl, rfl, by decide, by decide, by decide⟩
theorem i32_of {x : Int32} {n : Nat} (hn : n < 2 ^ 31) (h : x.toInt = n) : x = nI n := Int32.toInt_inj.mp (by rw [nI_toInt hn]; exact h)
def hodI (h : Int32) : Int32 := h - h / 24 * 24
def noonI (h : Int32) : Prop := ¬ hodI h < 10 ∧ ¬ 15 < hodI h
def coldI (kind v hour frost : Int32) : Int32 := if kind = 3 ∨ kind = 6 then frost - v else if kind = 4 then (if ¬ hodI hour < 10 ∧ ¬ 15 < hodI hour then frost - v else frost) else if kind = 5 then (if ¬ hodI hour < 10 ∧ ¬ 15 < hodI hour then frost + v else frost) else frost
section P19
variable {X : pm_X} {d : Nat} {P Q : pm_O → Prop} {g : List pm_S} {I : Nat → Nat → Int32} {J : Nat → Nat → Int64} {j : Nat}
theorem q24 : ((24 : Int32) = 0) = False := by decide
theorem hod_d (h : Int32) : h - h / 24 * 24 = hodI h := rfl
theorem K_P_coldOf {hour frost : Int32} (hj : j < 16) : pm_cl X (d + 1) 62 [.ref 1, .int (nI j), .int hour, .int frost] (pm_S0 ++ g, I, J) P = P (some (.int (coldI (I 7 j) (I 8 j) hour frost)), (pm_S0 ++ g, I, J)) := by
  have hb := bad_nI (k := j) (n := 16) hj (by decide)
  have hc := nI_clamp (n := j) (by omega)
  refine K_of (k := 0) (fun d' => ?_)
  show pm_V X d' 62 0 [some (.ref 1), some (.int (nI j)), some (.int hour), some (.int frost), none, none] [] (pm_S0 ++ g, I, J) _
  have tail : ∀ (Q : pm_O → Prop) (hod noon : Int32), (noon = 0 ∨ noon = 1) → pm_V X d' 62 27 [some (.ref 1), some (.int (nI j)), some (.int hour), some (.int frost), some (.int hod), some (.int noon)] [] (pm_S0 ++ g, I, J) Q = Q (some (.int (if I 7 j = 3 ∨ I 7 j = 6 then frost - I 8 j else if I 7 j = 4 then (if noon = 1 then frost - I 8 j else frost) else if I 7 j = 5 then (if noon = 1 then frost + I 8 j else frost) else frost)), (pm_S0 ++ g, I, J)) := by
    intro Q hod noon hn
    by_cases k3 : I 7 j = 3
    · simp only [e_P_coldOf_0, e_P_coldOf_1, e_P_coldOf_3, e_P_coldOf_4, e_P_coldOf_6, e_P_coldOf_8, e_P_coldOf_10, e_P_coldOf_13, e_P_coldOf_15, e_P_coldOf_17, e_P_coldOf_20, e_P_coldOf_21, e_P_coldOf_24, e_P_coldOf_25, e_P_coldOf_27, e_P_coldOf_28, e_P_coldOf_31, e_P_coldOf_32, e_P_coldOf_33_c3, e_P_coldOf_33_c4, e_P_coldOf_33_c5, e_P_coldOf_33_c6, e_P_coldOf_33_d, e_P_coldOf_64, e_P_coldOf_65, e_P_coldOf_66, e_P_coldOf_69, e_P_coldOf_70, e_P_coldOf_71, e_P_coldOf_72, e_P_coldOf_73, e_P_coldOf_75, e_P_coldOf_78, e_P_coldOf_79, e_P_coldOf_80, e_P_coldOf_83, e_P_coldOf_84, e_P_coldOf_85, e_P_coldOf_86, e_P_coldOf_89, e_P_coldOf_90, e_P_coldOf_91, e_P_coldOf_93, e_P_coldOf_96, e_P_coldOf_97, e_P_coldOf_98, e_P_coldOf_101, e_P_coldOf_102, e_P_coldOf_103, e_P_coldOf_104, e_P_coldOf_107, e_P_coldOf_108, e_P_coldOf_109, e_P_coldOf_110, sh_r_1_2, sh_r_1_3, sh_i_7, sh_i_8, pm_opt_some, pm_opt_if, hb, hc, Bool.false_eq_true, if_false, true_and, k3]
      simp
    · by_cases k6 : I 7 j = 6
      · simp only [e_P_coldOf_0, e_P_coldOf_1, e_P_coldOf_3, e_P_coldOf_4, e_P_coldOf_6, e_P_coldOf_8, e_P_coldOf_10, e_P_coldOf_13, e_P_coldOf_15, e_P_coldOf_17, e_P_coldOf_20, e_P_coldOf_21, e_P_coldOf_24, e_P_coldOf_25, e_P_coldOf_27, e_P_coldOf_28, e_P_coldOf_31, e_P_coldOf_32, e_P_coldOf_33_c3, e_P_coldOf_33_c4, e_P_coldOf_33_c5, e_P_coldOf_33_c6, e_P_coldOf_33_d, e_P_coldOf_64, e_P_coldOf_65, e_P_coldOf_66, e_P_coldOf_69, e_P_coldOf_70, e_P_coldOf_71, e_P_coldOf_72, e_P_coldOf_73, e_P_coldOf_75, e_P_coldOf_78, e_P_coldOf_79, e_P_coldOf_80, e_P_coldOf_83, e_P_coldOf_84, e_P_coldOf_85, e_P_coldOf_86, e_P_coldOf_89, e_P_coldOf_90, e_P_coldOf_91, e_P_coldOf_93, e_P_coldOf_96, e_P_coldOf_97, e_P_coldOf_98, e_P_coldOf_101, e_P_coldOf_102, e_P_coldOf_103, e_P_coldOf_104, e_P_coldOf_107, e_P_coldOf_108, e_P_coldOf_109, e_P_coldOf_110, sh_r_1_2, sh_r_1_3, sh_i_7, sh_i_8, pm_opt_some, pm_opt_if, hb, hc, Bool.false_eq_true, if_false, true_and, k6]
        simp
      · by_cases k4 : I 7 j = 4
        · simp only [e_P_coldOf_0, e_P_coldOf_1, e_P_coldOf_3, e_P_coldOf_4, e_P_coldOf_6, e_P_coldOf_8, e_P_coldOf_10, e_P_coldOf_13, e_P_coldOf_15, e_P_coldOf_17, e_P_coldOf_20, e_P_coldOf_21, e_P_coldOf_24, e_P_coldOf_25, e_P_coldOf_27, e_P_coldOf_28, e_P_coldOf_31, e_P_coldOf_32, e_P_coldOf_33_c3, e_P_coldOf_33_c4, e_P_coldOf_33_c5, e_P_coldOf_33_c6, e_P_coldOf_33_d, e_P_coldOf_64, e_P_coldOf_65, e_P_coldOf_66, e_P_coldOf_69, e_P_coldOf_70, e_P_coldOf_71, e_P_coldOf_72, e_P_coldOf_73, e_P_coldOf_75, e_P_coldOf_78, e_P_coldOf_79, e_P_coldOf_80, e_P_coldOf_83, e_P_coldOf_84, e_P_coldOf_85, e_P_coldOf_86, e_P_coldOf_89, e_P_coldOf_90, e_P_coldOf_91, e_P_coldOf_93, e_P_coldOf_96, e_P_coldOf_97, e_P_coldOf_98, e_P_coldOf_101, e_P_coldOf_102, e_P_coldOf_103, e_P_coldOf_104, e_P_coldOf_107, e_P_coldOf_108, e_P_coldOf_109, e_P_coldOf_110, sh_r_1_2, sh_r_1_3, sh_i_7, sh_i_8, pm_opt_some, pm_opt_if, hb, hc, Bool.false_eq_true, if_false, true_and, k4]
          rcases hn with rfl | rfl <;> simp
        · by_cases k5 : I 7 j = 5
          · simp only [e_P_coldOf_0, e_P_coldOf_1, e_P_coldOf_3, e_P_coldOf_4, e_P_coldOf_6, e_P_coldOf_8, e_P_coldOf_10, e_P_coldOf_13, e_P_coldOf_15, e_P_coldOf_17, e_P_coldOf_20, e_P_coldOf_21, e_P_coldOf_24, e_P_coldOf_25, e_P_coldOf_27, e_P_coldOf_28, e_P_coldOf_31, e_P_coldOf_32, e_P_coldOf_33_c3, e_P_coldOf_33_c4, e_P_coldOf_33_c5, e_P_coldOf_33_c6, e_P_coldOf_33_d, e_P_coldOf_64, e_P_coldOf_65, e_P_coldOf_66, e_P_coldOf_69, e_P_coldOf_70, e_P_coldOf_71, e_P_coldOf_72, e_P_coldOf_73, e_P_coldOf_75, e_P_coldOf_78, e_P_coldOf_79, e_P_coldOf_80, e_P_coldOf_83, e_P_coldOf_84, e_P_coldOf_85, e_P_coldOf_86, e_P_coldOf_89, e_P_coldOf_90, e_P_coldOf_91, e_P_coldOf_93, e_P_coldOf_96, e_P_coldOf_97, e_P_coldOf_98, e_P_coldOf_101, e_P_coldOf_102, e_P_coldOf_103, e_P_coldOf_104, e_P_coldOf_107, e_P_coldOf_108, e_P_coldOf_109, e_P_coldOf_110, sh_r_1_2, sh_r_1_3, sh_i_7, sh_i_8, pm_opt_some, pm_opt_if, hb, hc, Bool.false_eq_true, if_false, true_and, k5]
            rcases hn with rfl | rfl <;> simp
          · have hx : (I 7 j).toInt < 3 ∨ 6 < (I 7 j).toInt := by
              have h3 : ¬ (I 7 j).toInt = 3 := fun e => k3 (i32_of (n := 3) (by decide) e)
              have h4 : ¬ (I 7 j).toInt = 4 := fun e => k4 (i32_of (n := 4) (by decide) e)
              have h5 : ¬ (I 7 j).toInt = 5 := fun e => k5 (i32_of (n := 5) (by decide) e)
              have h6 : ¬ (I 7 j).toInt = 6 := fun e => k6 (i32_of (n := 6) (by decide) e)
              omega
            simp only [e_P_coldOf_0, e_P_coldOf_1, e_P_coldOf_3, e_P_coldOf_4, e_P_coldOf_6, e_P_coldOf_8, e_P_coldOf_10, e_P_coldOf_13, e_P_coldOf_15, e_P_coldOf_17, e_P_coldOf_20, e_P_coldOf_21, e_P_coldOf_24, e_P_coldOf_25, e_P_coldOf_27, e_P_coldOf_28, e_P_coldOf_31, e_P_coldOf_32, e_P_coldOf_64, e_P_coldOf_65, e_P_coldOf_66, e_P_coldOf_69, e_P_coldOf_70, e_P_coldOf_71, e_P_coldOf_72, e_P_coldOf_73, e_P_coldOf_75, e_P_coldOf_78, e_P_coldOf_79, e_P_coldOf_80, e_P_coldOf_83, e_P_coldOf_84, e_P_coldOf_85, e_P_coldOf_86, e_P_coldOf_89, e_P_coldOf_90, e_P_coldOf_91, e_P_coldOf_93, e_P_coldOf_96, e_P_coldOf_97, e_P_coldOf_98, e_P_coldOf_101, e_P_coldOf_102, e_P_coldOf_103, e_P_coldOf_104, e_P_coldOf_107, e_P_coldOf_108, e_P_coldOf_109, e_P_coldOf_110, sh_r_1_2, sh_r_1_3, sh_i_7, sh_i_8, pm_opt_some, pm_opt_if, hb, hc, Bool.false_eq_true, if_false, true_and, e_P_coldOf_33_d hx, k3, k4, k5, k6, or_self]
  simp only [e_P_coldOf_0, e_P_coldOf_1, e_P_coldOf_3, e_P_coldOf_4, e_P_coldOf_6, e_P_coldOf_8, e_P_coldOf_10, e_P_coldOf_13, e_P_coldOf_15, e_P_coldOf_17, e_P_coldOf_20, e_P_coldOf_21, e_P_coldOf_24, e_P_coldOf_25, e_P_coldOf_28, e_P_coldOf_31, e_P_coldOf_32, e_P_coldOf_33_c3, e_P_coldOf_33_c4, e_P_coldOf_33_c5, e_P_coldOf_33_c6, e_P_coldOf_33_d, e_P_coldOf_64, e_P_coldOf_65, e_P_coldOf_66, e_P_coldOf_69, e_P_coldOf_70, e_P_coldOf_71, e_P_coldOf_72, e_P_coldOf_73, e_P_coldOf_75, e_P_coldOf_78, e_P_coldOf_79, e_P_coldOf_80, e_P_coldOf_83, e_P_coldOf_84, e_P_coldOf_85, e_P_coldOf_86, e_P_coldOf_89, e_P_coldOf_90, e_P_coldOf_91, e_P_coldOf_93, e_P_coldOf_96, e_P_coldOf_97, e_P_coldOf_98, e_P_coldOf_101, e_P_coldOf_102, e_P_coldOf_103, e_P_coldOf_104, e_P_coldOf_107, e_P_coldOf_108, e_P_coldOf_109, e_P_coldOf_110, q24, not_false_eq_true, true_and, hod_d]
  unfold coldI
  by_cases n1 : hodI hour < 10
  · rw [if_pos n1, tail _ _ _ (Or.inl rfl)]
    simp [n1]
  · rw [if_neg n1]
    by_cases n2 : 15 < hodI hour
    · rw [if_pos n2, tail _ _ _ (Or.inl rfl)]
      simp [n1, n2]
    · rw [if_neg n2, tail _ _ _ (Or.inr rfl)]
      simp [n1, n2]
end P19
