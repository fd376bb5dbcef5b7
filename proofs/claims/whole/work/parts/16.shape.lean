/-! THE SHAPE behind the constructors (printed by wip/whole/gen5.py): cells 0 to 81 the class, 82 on the reference -/
def pm_S0 : List pm_S := [(0, 0, [some 1, some 13, none, some 25, none, some 26, some 31, none, some 32, some 33, some 35, some 39, some 43, some 44]), (0, 1, [some 2, some 6, some 7, some 8, none, none, some 9, some 10, some 11, some 12, none, none]), (0, 2, [some 3, some 4, some 5]), (1, 16, []), (1, 16, []), (1, 16, []), (1, 16, []), (1, 16, []), (1, 16, []), (1, 4, []), (1, 10, []), (1, 10, []), (1, 10, []), (0, 1, [some 14, some 18, some 19, some 20, none, none, some 21, some 22, some 23, some 24, none, none]), (0, 2, [some 15, some 16, some 17]), (1, 16, []), (1, 16, []), (1, 16, []), (1, 16, []), (1, 16, []), (1, 16, []), (1, 4, []), (1, 10, []), (1, 10, []), (1, 10, []), (2, 100, []), (0, 3, [some 27, some 28, some 29, none, some 30, none]), (1, 10, []), (1, 10, []), (1, 10, []), (1, 100, []), (6, 5, [some 45, some 50, some 55, some 60, some 65]), (5, 6, [some 70, some 72, some 74, some 76, some 78, some 80]), (0, 5, [some 34, none, none, none, none]), (1, 20, []), (0, 2, [some 36, some 37, some 38]), (1, 16, []), (1, 16, []), (1, 16, []), (0, 2, [some 40, some 41, some 42]), (1, 16, []), (1, 16, []), (1, 16, []), (1, 16, []), (1, 16, []), (0, 3, [some 46, some 47, some 48, none, some 49, none]), (1, 10, []), (1, 10, []), (1, 10, []), (1, 100, []), (0, 3, [some 51, some 52, some 53, none, some 54, none]), (1, 10, []), (1, 10, []), (1, 10, []), (1, 100, []), (0, 3, [some 56, some 57, some 58, none, some 59, none]), (1, 10, []), (1, 10, []), (1, 10, []), (1, 100, []), (0, 3, [some 61, some 62, some 63, none, some 64, none]), (1, 10, []), (1, 10, []), (1, 10, []), (1, 100, []), (0, 3, [some 66, some 67, some 68, none, some 69, none]), (1, 10, []), (1, 10, []), (1, 10, []), (1, 100, []), (0, 4, [none, none, some 71]), (4, 60, []), (0, 4, [none, none, some 73]), (4, 60, []), (0, 4, [none, none, some 75]), (4, 60, []), (0, 4, [none, none, some 77]), (4, 60, []), (0, 4, [none, none, some 79]), (4, 60, []), (0, 4, [none, none, some 81]), (4, 60, []), (0, 7, [none, none, some 83, some 84, some 85, some 86, some 87, some 88, some 89, none, none, none, none, none, some 90, some 91, some 92, some 93, some 94, some 95, some 96, some 97, none, none, none, some 98, none, none, some 99, some 100, some 101, some 102, some 103, some 104, none, some 105, some 106, some 107, none, none, none, none, none, some 108, some 109, some 110, some 111, some 112, some 113, some 114, some 115, some 116, some 117, none, some 118, some 119, some 120, some 121, some 122]), (1, 16, []), (1, 16, []), (1, 16, []), (1, 16, []), (1, 16, []), (1, 16, []), (1, 4, []), (1, 100, []), (1, 5, []), (1, 50, []), (1, 50, []), (1, 50, []), (1, 50, []), (1, 500, []), (1, 101, []), (3, 100, []), (1, 16, []), (1, 16, []), (1, 16, []), (1, 16, []), (1, 16, []), (1, 16, []), (1, 10, []), (1, 10, []), (1, 10, []), (1, 16, []), (1, 16, []), (1, 16, []), (1, 16, []), (1, 16, []), (1, 16, []), (1, 4, []), (1, 10, []), (1, 10, []), (1, 10, []), (1, 20, []), (1, 6, []), (1, 6, []), (4, 360, []), (4, 60, [])]
section PSH
variable {X : pm_X} {g : List pm_S} {I : Nat → Nat → Int32} {J : Nat → Nat → Int64} {i : Int32}
theorem sh_o_0 : pm_isO (pm_S0 ++ g) 0 0 = true := rfl
theorem sh_r_0_0 : pm_rg (pm_S0 ++ g) 0 0 0 = some (.ref 1) := rfl
theorem sh_r_0_1 : pm_rg (pm_S0 ++ g) 0 0 1 = some (.ref 13) := rfl
theorem sh_r_0_3 : pm_rg (pm_S0 ++ g) 0 0 3 = some (.ref 25) := rfl
theorem sh_r_0_5 : pm_rg (pm_S0 ++ g) 0 0 5 = some (.ref 26) := rfl
theorem sh_r_0_6 : pm_rg (pm_S0 ++ g) 0 0 6 = some (.ref 31) := rfl
theorem sh_r_0_8 : pm_rg (pm_S0 ++ g) 0 0 8 = some (.ref 32) := rfl
theorem sh_r_0_9 : pm_rg (pm_S0 ++ g) 0 0 9 = some (.ref 33) := rfl
theorem sh_r_0_10 : pm_rg (pm_S0 ++ g) 0 0 10 = some (.ref 35) := rfl
theorem sh_r_0_11 : pm_rg (pm_S0 ++ g) 0 0 11 = some (.ref 39) := rfl
theorem sh_r_0_12 : pm_rg (pm_S0 ++ g) 0 0 12 = some (.ref 43) := rfl
theorem sh_r_0_13 : pm_rg (pm_S0 ++ g) 0 0 13 = some (.ref 44) := rfl
theorem sh_o_1 : pm_isO (pm_S0 ++ g) 1 1 = true := rfl
theorem sh_r_1_0 : pm_rg (pm_S0 ++ g) 1 1 0 = some (.ref 2) := rfl
theorem sh_r_1_1 : pm_rg (pm_S0 ++ g) 1 1 1 = some (.ref 6) := rfl
theorem sh_r_1_2 : pm_rg (pm_S0 ++ g) 1 1 2 = some (.ref 7) := rfl
theorem sh_r_1_3 : pm_rg (pm_S0 ++ g) 1 1 3 = some (.ref 8) := rfl
theorem sh_r_1_6 : pm_rg (pm_S0 ++ g) 1 1 6 = some (.ref 9) := rfl
theorem sh_r_1_7 : pm_rg (pm_S0 ++ g) 1 1 7 = some (.ref 10) := rfl
theorem sh_r_1_8 : pm_rg (pm_S0 ++ g) 1 1 8 = some (.ref 11) := rfl
theorem sh_r_1_9 : pm_rg (pm_S0 ++ g) 1 1 9 = some (.ref 12) := rfl
theorem sh_o_2 : pm_isO (pm_S0 ++ g) 2 2 = true := rfl
theorem sh_r_2_0 : pm_rg (pm_S0 ++ g) 2 2 0 = some (.ref 3) := rfl
theorem sh_r_2_1 : pm_rg (pm_S0 ++ g) 2 2 1 = some (.ref 4) := rfl
theorem sh_r_2_2 : pm_rg (pm_S0 ++ g) 2 2 2 = some (.ref 5) := rfl
theorem sh_i_3 : pm_ia X (pm_S0 ++ g) I 3 i = if pm_bad i 16 = true then none else some (I 3 i.toNatClampNeg) := rfl
theorem sh_w_3 : pm_okw (pm_S0 ++ g) 1 3 i = !pm_bad i 16 := rfl
theorem sh_n_3 : pm_len X (pm_S0 ++ g) 3 = some 16 := rfl
theorem sh_i_4 : pm_ia X (pm_S0 ++ g) I 4 i = if pm_bad i 16 = true then none else some (I 4 i.toNatClampNeg) := rfl
theorem sh_w_4 : pm_okw (pm_S0 ++ g) 1 4 i = !pm_bad i 16 := rfl
theorem sh_n_4 : pm_len X (pm_S0 ++ g) 4 = some 16 := rfl
theorem sh_i_5 : pm_ia X (pm_S0 ++ g) I 5 i = if pm_bad i 16 = true then none else some (I 5 i.toNatClampNeg) := rfl
theorem sh_w_5 : pm_okw (pm_S0 ++ g) 1 5 i = !pm_bad i 16 := rfl
theorem sh_n_5 : pm_len X (pm_S0 ++ g) 5 = some 16 := rfl
theorem sh_i_6 : pm_ia X (pm_S0 ++ g) I 6 i = if pm_bad i 16 = true then none else some (I 6 i.toNatClampNeg) := rfl
theorem sh_w_6 : pm_okw (pm_S0 ++ g) 1 6 i = !pm_bad i 16 := rfl
theorem sh_n_6 : pm_len X (pm_S0 ++ g) 6 = some 16 := rfl
theorem sh_i_7 : pm_ia X (pm_S0 ++ g) I 7 i = if pm_bad i 16 = true then none else some (I 7 i.toNatClampNeg) := rfl
theorem sh_w_7 : pm_okw (pm_S0 ++ g) 1 7 i = !pm_bad i 16 := rfl
theorem sh_n_7 : pm_len X (pm_S0 ++ g) 7 = some 16 := rfl
theorem sh_i_8 : pm_ia X (pm_S0 ++ g) I 8 i = if pm_bad i 16 = true then none else some (I 8 i.toNatClampNeg) := rfl
theorem sh_w_8 : pm_okw (pm_S0 ++ g) 1 8 i = !pm_bad i 16 := rfl
theorem sh_n_8 : pm_len X (pm_S0 ++ g) 8 = some 16 := rfl
theorem sh_i_9 : pm_ia X (pm_S0 ++ g) I 9 i = if pm_bad i 4 = true then none else some (I 9 i.toNatClampNeg) := rfl
theorem sh_w_9 : pm_okw (pm_S0 ++ g) 1 9 i = !pm_bad i 4 := rfl
theorem sh_n_9 : pm_len X (pm_S0 ++ g) 9 = some 4 := rfl
theorem sh_i_10 : pm_ia X (pm_S0 ++ g) I 10 i = if pm_bad i 10 = true then none else some (I 10 i.toNatClampNeg) := rfl
theorem sh_w_10 : pm_okw (pm_S0 ++ g) 1 10 i = !pm_bad i 10 := rfl
theorem sh_n_10 : pm_len X (pm_S0 ++ g) 10 = some 10 := rfl
theorem sh_i_11 : pm_ia X (pm_S0 ++ g) I 11 i = if pm_bad i 10 = true then none else some (I 11 i.toNatClampNeg) := rfl
theorem sh_w_11 : pm_okw (pm_S0 ++ g) 1 11 i = !pm_bad i 10 := rfl
theorem sh_n_11 : pm_len X (pm_S0 ++ g) 11 = some 10 := rfl
theorem sh_i_12 : pm_ia X (pm_S0 ++ g) I 12 i = if pm_bad i 10 = true then none else some (I 12 i.toNatClampNeg) := rfl
theorem sh_w_12 : pm_okw (pm_S0 ++ g) 1 12 i = !pm_bad i 10 := rfl
theorem sh_n_12 : pm_len X (pm_S0 ++ g) 12 = some 10 := rfl
theorem sh_o_13 : pm_isO (pm_S0 ++ g) 13 1 = true := rfl
theorem sh_r_13_0 : pm_rg (pm_S0 ++ g) 13 1 0 = some (.ref 14) := rfl
theorem sh_r_13_1 : pm_rg (pm_S0 ++ g) 13 1 1 = some (.ref 18) := rfl
theorem sh_r_13_2 : pm_rg (pm_S0 ++ g) 13 1 2 = some (.ref 19) := rfl
theorem sh_r_13_3 : pm_rg (pm_S0 ++ g) 13 1 3 = some (.ref 20) := rfl
theorem sh_r_13_6 : pm_rg (pm_S0 ++ g) 13 1 6 = some (.ref 21) := rfl
theorem sh_r_13_7 : pm_rg (pm_S0 ++ g) 13 1 7 = some (.ref 22) := rfl
theorem sh_r_13_8 : pm_rg (pm_S0 ++ g) 13 1 8 = some (.ref 23) := rfl
theorem sh_r_13_9 : pm_rg (pm_S0 ++ g) 13 1 9 = some (.ref 24) := rfl
theorem sh_o_14 : pm_isO (pm_S0 ++ g) 14 2 = true := rfl
theorem sh_r_14_0 : pm_rg (pm_S0 ++ g) 14 2 0 = some (.ref 15) := rfl
theorem sh_r_14_1 : pm_rg (pm_S0 ++ g) 14 2 1 = some (.ref 16) := rfl
theorem sh_r_14_2 : pm_rg (pm_S0 ++ g) 14 2 2 = some (.ref 17) := rfl
theorem sh_i_15 : pm_ia X (pm_S0 ++ g) I 15 i = if pm_bad i 16 = true then none else some (I 15 i.toNatClampNeg) := rfl
theorem sh_w_15 : pm_okw (pm_S0 ++ g) 1 15 i = !pm_bad i 16 := rfl
theorem sh_n_15 : pm_len X (pm_S0 ++ g) 15 = some 16 := rfl
theorem sh_i_16 : pm_ia X (pm_S0 ++ g) I 16 i = if pm_bad i 16 = true then none else some (I 16 i.toNatClampNeg) := rfl
theorem sh_w_16 : pm_okw (pm_S0 ++ g) 1 16 i = !pm_bad i 16 := rfl
theorem sh_n_16 : pm_len X (pm_S0 ++ g) 16 = some 16 := rfl
theorem sh_i_17 : pm_ia X (pm_S0 ++ g) I 17 i = if pm_bad i 16 = true then none else some (I 17 i.toNatClampNeg) := rfl
theorem sh_w_17 : pm_okw (pm_S0 ++ g) 1 17 i = !pm_bad i 16 := rfl
theorem sh_n_17 : pm_len X (pm_S0 ++ g) 17 = some 16 := rfl
theorem sh_i_18 : pm_ia X (pm_S0 ++ g) I 18 i = if pm_bad i 16 = true then none else some (I 18 i.toNatClampNeg) := rfl
theorem sh_w_18 : pm_okw (pm_S0 ++ g) 1 18 i = !pm_bad i 16 := rfl
theorem sh_n_18 : pm_len X (pm_S0 ++ g) 18 = some 16 := rfl
theorem sh_i_19 : pm_ia X (pm_S0 ++ g) I 19 i = if pm_bad i 16 = true then none else some (I 19 i.toNatClampNeg) := rfl
theorem sh_w_19 : pm_okw (pm_S0 ++ g) 1 19 i = !pm_bad i 16 := rfl
theorem sh_n_19 : pm_len X (pm_S0 ++ g) 19 = some 16 := rfl
theorem sh_i_20 : pm_ia X (pm_S0 ++ g) I 20 i = if pm_bad i 16 = true then none else some (I 20 i.toNatClampNeg) := rfl
theorem sh_w_20 : pm_okw (pm_S0 ++ g) 1 20 i = !pm_bad i 16 := rfl
theorem sh_n_20 : pm_len X (pm_S0 ++ g) 20 = some 16 := rfl
theorem sh_i_21 : pm_ia X (pm_S0 ++ g) I 21 i = if pm_bad i 4 = true then none else some (I 21 i.toNatClampNeg) := rfl
theorem sh_w_21 : pm_okw (pm_S0 ++ g) 1 21 i = !pm_bad i 4 := rfl
theorem sh_n_21 : pm_len X (pm_S0 ++ g) 21 = some 4 := rfl
theorem sh_i_22 : pm_ia X (pm_S0 ++ g) I 22 i = if pm_bad i 10 = true then none else some (I 22 i.toNatClampNeg) := rfl
theorem sh_w_22 : pm_okw (pm_S0 ++ g) 1 22 i = !pm_bad i 10 := rfl
theorem sh_n_22 : pm_len X (pm_S0 ++ g) 22 = some 10 := rfl
theorem sh_i_23 : pm_ia X (pm_S0 ++ g) I 23 i = if pm_bad i 10 = true then none else some (I 23 i.toNatClampNeg) := rfl
theorem sh_w_23 : pm_okw (pm_S0 ++ g) 1 23 i = !pm_bad i 10 := rfl
theorem sh_n_23 : pm_len X (pm_S0 ++ g) 23 = some 10 := rfl
theorem sh_i_24 : pm_ia X (pm_S0 ++ g) I 24 i = if pm_bad i 10 = true then none else some (I 24 i.toNatClampNeg) := rfl
theorem sh_w_24 : pm_okw (pm_S0 ++ g) 1 24 i = !pm_bad i 10 := rfl
theorem sh_n_24 : pm_len X (pm_S0 ++ g) 24 = some 10 := rfl
theorem sh_i_25 : pm_ba (pm_S0 ++ g) I 25 i = if pm_bad i 100 = true then none else some (I 25 i.toNatClampNeg) := rfl
theorem sh_w_25 : pm_okw (pm_S0 ++ g) 2 25 i = !pm_bad i 100 := rfl
theorem sh_n_25 : pm_len X (pm_S0 ++ g) 25 = some 100 := rfl
theorem sh_o_26 : pm_isO (pm_S0 ++ g) 26 3 = true := rfl
theorem sh_r_26_0 : pm_rg (pm_S0 ++ g) 26 3 0 = some (.ref 27) := rfl
theorem sh_r_26_1 : pm_rg (pm_S0 ++ g) 26 3 1 = some (.ref 28) := rfl
theorem sh_r_26_2 : pm_rg (pm_S0 ++ g) 26 3 2 = some (.ref 29) := rfl
theorem sh_r_26_4 : pm_rg (pm_S0 ++ g) 26 3 4 = some (.ref 30) := rfl
theorem sh_i_27 : pm_ia X (pm_S0 ++ g) I 27 i = if pm_bad i 10 = true then none else some (I 27 i.toNatClampNeg) := rfl
theorem sh_w_27 : pm_okw (pm_S0 ++ g) 1 27 i = !pm_bad i 10 := rfl
theorem sh_n_27 : pm_len X (pm_S0 ++ g) 27 = some 10 := rfl
theorem sh_i_28 : pm_ia X (pm_S0 ++ g) I 28 i = if pm_bad i 10 = true then none else some (I 28 i.toNatClampNeg) := rfl
theorem sh_w_28 : pm_okw (pm_S0 ++ g) 1 28 i = !pm_bad i 10 := rfl
theorem sh_n_28 : pm_len X (pm_S0 ++ g) 28 = some 10 := rfl
theorem sh_i_29 : pm_ia X (pm_S0 ++ g) I 29 i = if pm_bad i 10 = true then none else some (I 29 i.toNatClampNeg) := rfl
theorem sh_w_29 : pm_okw (pm_S0 ++ g) 1 29 i = !pm_bad i 10 := rfl
theorem sh_n_29 : pm_len X (pm_S0 ++ g) 29 = some 10 := rfl
theorem sh_i_30 : pm_ia X (pm_S0 ++ g) I 30 i = if pm_bad i 100 = true then none else some (I 30 i.toNatClampNeg) := rfl
theorem sh_w_30 : pm_okw (pm_S0 ++ g) 1 30 i = !pm_bad i 100 := rfl
theorem sh_n_30 : pm_len X (pm_S0 ++ g) 30 = some 100 := rfl
theorem sh_i_31 : pm_aa (pm_S0 ++ g) 31 i = if pm_bad i 5 = true then none else some (pm_rf (([some 45, some 50, some 55, some 60, some 65] : List (Option Nat)).getD i.toNatClampNeg none)) := rfl
theorem sh_n_31 : pm_len X (pm_S0 ++ g) 31 = some 5 := rfl
theorem sh_i_32 : pm_aa (pm_S0 ++ g) 32 i = if pm_bad i 6 = true then none else some (pm_rf (([some 70, some 72, some 74, some 76, some 78, some 80] : List (Option Nat)).getD i.toNatClampNeg none)) := rfl
theorem sh_n_32 : pm_len X (pm_S0 ++ g) 32 = some 6 := rfl
theorem sh_o_33 : pm_isO (pm_S0 ++ g) 33 5 = true := rfl
theorem sh_r_33_0 : pm_rg (pm_S0 ++ g) 33 5 0 = some (.ref 34) := rfl
theorem sh_i_34 : pm_ia X (pm_S0 ++ g) I 34 i = if pm_bad i 20 = true then none else some (I 34 i.toNatClampNeg) := rfl
theorem sh_w_34 : pm_okw (pm_S0 ++ g) 1 34 i = !pm_bad i 20 := rfl
theorem sh_n_34 : pm_len X (pm_S0 ++ g) 34 = some 20 := rfl
theorem sh_o_35 : pm_isO (pm_S0 ++ g) 35 2 = true := rfl
theorem sh_r_35_0 : pm_rg (pm_S0 ++ g) 35 2 0 = some (.ref 36) := rfl
theorem sh_r_35_1 : pm_rg (pm_S0 ++ g) 35 2 1 = some (.ref 37) := rfl
theorem sh_r_35_2 : pm_rg (pm_S0 ++ g) 35 2 2 = some (.ref 38) := rfl
theorem sh_i_36 : pm_ia X (pm_S0 ++ g) I 36 i = if pm_bad i 16 = true then none else some (I 36 i.toNatClampNeg) := rfl
theorem sh_w_36 : pm_okw (pm_S0 ++ g) 1 36 i = !pm_bad i 16 := rfl
theorem sh_n_36 : pm_len X (pm_S0 ++ g) 36 = some 16 := rfl
theorem sh_i_37 : pm_ia X (pm_S0 ++ g) I 37 i = if pm_bad i 16 = true then none else some (I 37 i.toNatClampNeg) := rfl
theorem sh_w_37 : pm_okw (pm_S0 ++ g) 1 37 i = !pm_bad i 16 := rfl
theorem sh_n_37 : pm_len X (pm_S0 ++ g) 37 = some 16 := rfl
theorem sh_i_38 : pm_ia X (pm_S0 ++ g) I 38 i = if pm_bad i 16 = true then none else some (I 38 i.toNatClampNeg) := rfl
theorem sh_w_38 : pm_okw (pm_S0 ++ g) 1 38 i = !pm_bad i 16 := rfl
theorem sh_n_38 : pm_len X (pm_S0 ++ g) 38 = some 16 := rfl
theorem sh_o_39 : pm_isO (pm_S0 ++ g) 39 2 = true := rfl
theorem sh_r_39_0 : pm_rg (pm_S0 ++ g) 39 2 0 = some (.ref 40) := rfl
theorem sh_r_39_1 : pm_rg (pm_S0 ++ g) 39 2 1 = some (.ref 41) := rfl
theorem sh_r_39_2 : pm_rg (pm_S0 ++ g) 39 2 2 = some (.ref 42) := rfl
theorem sh_i_40 : pm_ia X (pm_S0 ++ g) I 40 i = if pm_bad i 16 = true then none else some (I 40 i.toNatClampNeg) := rfl
theorem sh_w_40 : pm_okw (pm_S0 ++ g) 1 40 i = !pm_bad i 16 := rfl
theorem sh_n_40 : pm_len X (pm_S0 ++ g) 40 = some 16 := rfl
theorem sh_i_41 : pm_ia X (pm_S0 ++ g) I 41 i = if pm_bad i 16 = true then none else some (I 41 i.toNatClampNeg) := rfl
theorem sh_w_41 : pm_okw (pm_S0 ++ g) 1 41 i = !pm_bad i 16 := rfl
theorem sh_n_41 : pm_len X (pm_S0 ++ g) 41 = some 16 := rfl
theorem sh_i_42 : pm_ia X (pm_S0 ++ g) I 42 i = if pm_bad i 16 = true then none else some (I 42 i.toNatClampNeg) := rfl
theorem sh_w_42 : pm_okw (pm_S0 ++ g) 1 42 i = !pm_bad i 16 := rfl
theorem sh_n_42 : pm_len X (pm_S0 ++ g) 42 = some 16 := rfl
theorem sh_i_43 : pm_ia X (pm_S0 ++ g) I 43 i = if pm_bad i 16 = true then none else some (I 43 i.toNatClampNeg) := rfl
theorem sh_w_43 : pm_okw (pm_S0 ++ g) 1 43 i = !pm_bad i 16 := rfl
theorem sh_n_43 : pm_len X (pm_S0 ++ g) 43 = some 16 := rfl
theorem sh_i_44 : pm_ia X (pm_S0 ++ g) I 44 i = if pm_bad i 16 = true then none else some (I 44 i.toNatClampNeg) := rfl
theorem sh_w_44 : pm_okw (pm_S0 ++ g) 1 44 i = !pm_bad i 16 := rfl
theorem sh_n_44 : pm_len X (pm_S0 ++ g) 44 = some 16 := rfl
theorem sh_o_45 : pm_isO (pm_S0 ++ g) 45 3 = true := rfl
theorem sh_r_45_0 : pm_rg (pm_S0 ++ g) 45 3 0 = some (.ref 46) := rfl
theorem sh_r_45_1 : pm_rg (pm_S0 ++ g) 45 3 1 = some (.ref 47) := rfl
theorem sh_r_45_2 : pm_rg (pm_S0 ++ g) 45 3 2 = some (.ref 48) := rfl
theorem sh_r_45_4 : pm_rg (pm_S0 ++ g) 45 3 4 = some (.ref 49) := rfl
theorem sh_i_46 : pm_ia X (pm_S0 ++ g) I 46 i = if pm_bad i 10 = true then none else some (I 46 i.toNatClampNeg) := rfl
theorem sh_w_46 : pm_okw (pm_S0 ++ g) 1 46 i = !pm_bad i 10 := rfl
theorem sh_n_46 : pm_len X (pm_S0 ++ g) 46 = some 10 := rfl
theorem sh_i_47 : pm_ia X (pm_S0 ++ g) I 47 i = if pm_bad i 10 = true then none else some (I 47 i.toNatClampNeg) := rfl
theorem sh_w_47 : pm_okw (pm_S0 ++ g) 1 47 i = !pm_bad i 10 := rfl
theorem sh_n_47 : pm_len X (pm_S0 ++ g) 47 = some 10 := rfl
theorem sh_i_48 : pm_ia X (pm_S0 ++ g) I 48 i = if pm_bad i 10 = true then none else some (I 48 i.toNatClampNeg) := rfl
theorem sh_w_48 : pm_okw (pm_S0 ++ g) 1 48 i = !pm_bad i 10 := rfl
theorem sh_n_48 : pm_len X (pm_S0 ++ g) 48 = some 10 := rfl
theorem sh_i_49 : pm_ia X (pm_S0 ++ g) I 49 i = if pm_bad i 100 = true then none else some (I 49 i.toNatClampNeg) := rfl
theorem sh_w_49 : pm_okw (pm_S0 ++ g) 1 49 i = !pm_bad i 100 := rfl
theorem sh_n_49 : pm_len X (pm_S0 ++ g) 49 = some 100 := rfl
theorem sh_o_50 : pm_isO (pm_S0 ++ g) 50 3 = true := rfl
theorem sh_r_50_0 : pm_rg (pm_S0 ++ g) 50 3 0 = some (.ref 51) := rfl
theorem sh_r_50_1 : pm_rg (pm_S0 ++ g) 50 3 1 = some (.ref 52) := rfl
theorem sh_r_50_2 : pm_rg (pm_S0 ++ g) 50 3 2 = some (.ref 53) := rfl
theorem sh_r_50_4 : pm_rg (pm_S0 ++ g) 50 3 4 = some (.ref 54) := rfl
theorem sh_i_51 : pm_ia X (pm_S0 ++ g) I 51 i = if pm_bad i 10 = true then none else some (I 51 i.toNatClampNeg) := rfl
theorem sh_w_51 : pm_okw (pm_S0 ++ g) 1 51 i = !pm_bad i 10 := rfl
theorem sh_n_51 : pm_len X (pm_S0 ++ g) 51 = some 10 := rfl
theorem sh_i_52 : pm_ia X (pm_S0 ++ g) I 52 i = if pm_bad i 10 = true then none else some (I 52 i.toNatClampNeg) := rfl
theorem sh_w_52 : pm_okw (pm_S0 ++ g) 1 52 i = !pm_bad i 10 := rfl
theorem sh_n_52 : pm_len X (pm_S0 ++ g) 52 = some 10 := rfl
theorem sh_i_53 : pm_ia X (pm_S0 ++ g) I 53 i = if pm_bad i 10 = true then none else some (I 53 i.toNatClampNeg) := rfl
theorem sh_w_53 : pm_okw (pm_S0 ++ g) 1 53 i = !pm_bad i 10 := rfl
theorem sh_n_53 : pm_len X (pm_S0 ++ g) 53 = some 10 := rfl
theorem sh_i_54 : pm_ia X (pm_S0 ++ g) I 54 i = if pm_bad i 100 = true then none else some (I 54 i.toNatClampNeg) := rfl
theorem sh_w_54 : pm_okw (pm_S0 ++ g) 1 54 i = !pm_bad i 100 := rfl
theorem sh_n_54 : pm_len X (pm_S0 ++ g) 54 = some 100 := rfl
theorem sh_o_55 : pm_isO (pm_S0 ++ g) 55 3 = true := rfl
theorem sh_r_55_0 : pm_rg (pm_S0 ++ g) 55 3 0 = some (.ref 56) := rfl
theorem sh_r_55_1 : pm_rg (pm_S0 ++ g) 55 3 1 = some (.ref 57) := rfl
theorem sh_r_55_2 : pm_rg (pm_S0 ++ g) 55 3 2 = some (.ref 58) := rfl
theorem sh_r_55_4 : pm_rg (pm_S0 ++ g) 55 3 4 = some (.ref 59) := rfl
theorem sh_i_56 : pm_ia X (pm_S0 ++ g) I 56 i = if pm_bad i 10 = true then none else some (I 56 i.toNatClampNeg) := rfl
theorem sh_w_56 : pm_okw (pm_S0 ++ g) 1 56 i = !pm_bad i 10 := rfl
theorem sh_n_56 : pm_len X (pm_S0 ++ g) 56 = some 10 := rfl
theorem sh_i_57 : pm_ia X (pm_S0 ++ g) I 57 i = if pm_bad i 10 = true then none else some (I 57 i.toNatClampNeg) := rfl
theorem sh_w_57 : pm_okw (pm_S0 ++ g) 1 57 i = !pm_bad i 10 := rfl
theorem sh_n_57 : pm_len X (pm_S0 ++ g) 57 = some 10 := rfl
theorem sh_i_58 : pm_ia X (pm_S0 ++ g) I 58 i = if pm_bad i 10 = true then none else some (I 58 i.toNatClampNeg) := rfl
theorem sh_w_58 : pm_okw (pm_S0 ++ g) 1 58 i = !pm_bad i 10 := rfl
theorem sh_n_58 : pm_len X (pm_S0 ++ g) 58 = some 10 := rfl
theorem sh_i_59 : pm_ia X (pm_S0 ++ g) I 59 i = if pm_bad i 100 = true then none else some (I 59 i.toNatClampNeg) := rfl
theorem sh_w_59 : pm_okw (pm_S0 ++ g) 1 59 i = !pm_bad i 100 := rfl
theorem sh_n_59 : pm_len X (pm_S0 ++ g) 59 = some 100 := rfl
theorem sh_o_60 : pm_isO (pm_S0 ++ g) 60 3 = true := rfl
theorem sh_r_60_0 : pm_rg (pm_S0 ++ g) 60 3 0 = some (.ref 61) := rfl
theorem sh_r_60_1 : pm_rg (pm_S0 ++ g) 60 3 1 = some (.ref 62) := rfl
theorem sh_r_60_2 : pm_rg (pm_S0 ++ g) 60 3 2 = some (.ref 63) := rfl
theorem sh_r_60_4 : pm_rg (pm_S0 ++ g) 60 3 4 = some (.ref 64) := rfl
theorem sh_i_61 : pm_ia X (pm_S0 ++ g) I 61 i = if pm_bad i 10 = true then none else some (I 61 i.toNatClampNeg) := rfl
theorem sh_w_61 : pm_okw (pm_S0 ++ g) 1 61 i = !pm_bad i 10 := rfl
theorem sh_n_61 : pm_len X (pm_S0 ++ g) 61 = some 10 := rfl
theorem sh_i_62 : pm_ia X (pm_S0 ++ g) I 62 i = if pm_bad i 10 = true then none else some (I 62 i.toNatClampNeg) := rfl
theorem sh_w_62 : pm_okw (pm_S0 ++ g) 1 62 i = !pm_bad i 10 := rfl
theorem sh_n_62 : pm_len X (pm_S0 ++ g) 62 = some 10 := rfl
theorem sh_i_63 : pm_ia X (pm_S0 ++ g) I 63 i = if pm_bad i 10 = true then none else some (I 63 i.toNatClampNeg) := rfl
theorem sh_w_63 : pm_okw (pm_S0 ++ g) 1 63 i = !pm_bad i 10 := rfl
theorem sh_n_63 : pm_len X (pm_S0 ++ g) 63 = some 10 := rfl
theorem sh_i_64 : pm_ia X (pm_S0 ++ g) I 64 i = if pm_bad i 100 = true then none else some (I 64 i.toNatClampNeg) := rfl
theorem sh_w_64 : pm_okw (pm_S0 ++ g) 1 64 i = !pm_bad i 100 := rfl
theorem sh_n_64 : pm_len X (pm_S0 ++ g) 64 = some 100 := rfl
theorem sh_o_65 : pm_isO (pm_S0 ++ g) 65 3 = true := rfl
theorem sh_r_65_0 : pm_rg (pm_S0 ++ g) 65 3 0 = some (.ref 66) := rfl
theorem sh_r_65_1 : pm_rg (pm_S0 ++ g) 65 3 1 = some (.ref 67) := rfl
theorem sh_r_65_2 : pm_rg (pm_S0 ++ g) 65 3 2 = some (.ref 68) := rfl
theorem sh_r_65_4 : pm_rg (pm_S0 ++ g) 65 3 4 = some (.ref 69) := rfl
theorem sh_i_66 : pm_ia X (pm_S0 ++ g) I 66 i = if pm_bad i 10 = true then none else some (I 66 i.toNatClampNeg) := rfl
theorem sh_w_66 : pm_okw (pm_S0 ++ g) 1 66 i = !pm_bad i 10 := rfl
theorem sh_n_66 : pm_len X (pm_S0 ++ g) 66 = some 10 := rfl
theorem sh_i_67 : pm_ia X (pm_S0 ++ g) I 67 i = if pm_bad i 10 = true then none else some (I 67 i.toNatClampNeg) := rfl
theorem sh_w_67 : pm_okw (pm_S0 ++ g) 1 67 i = !pm_bad i 10 := rfl
theorem sh_n_67 : pm_len X (pm_S0 ++ g) 67 = some 10 := rfl
theorem sh_i_68 : pm_ia X (pm_S0 ++ g) I 68 i = if pm_bad i 10 = true then none else some (I 68 i.toNatClampNeg) := rfl
theorem sh_w_68 : pm_okw (pm_S0 ++ g) 1 68 i = !pm_bad i 10 := rfl
theorem sh_n_68 : pm_len X (pm_S0 ++ g) 68 = some 10 := rfl
theorem sh_i_69 : pm_ia X (pm_S0 ++ g) I 69 i = if pm_bad i 100 = true then none else some (I 69 i.toNatClampNeg) := rfl
theorem sh_w_69 : pm_okw (pm_S0 ++ g) 1 69 i = !pm_bad i 100 := rfl
theorem sh_n_69 : pm_len X (pm_S0 ++ g) 69 = some 100 := rfl
theorem sh_o_70 : pm_isO (pm_S0 ++ g) 70 4 = true := rfl
theorem sh_r_70_2 : pm_rg (pm_S0 ++ g) 70 4 2 = some (.ref 71) := rfl
theorem sh_i_71 : pm_la (pm_S0 ++ g) J 71 i = if pm_bad i 60 = true then none else some (J 71 i.toNatClampNeg) := rfl
theorem sh_w_71 : pm_okw (pm_S0 ++ g) 4 71 i = !pm_bad i 60 := rfl
theorem sh_n_71 : pm_len X (pm_S0 ++ g) 71 = some 60 := rfl
theorem sh_o_72 : pm_isO (pm_S0 ++ g) 72 4 = true := rfl
theorem sh_r_72_2 : pm_rg (pm_S0 ++ g) 72 4 2 = some (.ref 73) := rfl
theorem sh_i_73 : pm_la (pm_S0 ++ g) J 73 i = if pm_bad i 60 = true then none else some (J 73 i.toNatClampNeg) := rfl
theorem sh_w_73 : pm_okw (pm_S0 ++ g) 4 73 i = !pm_bad i 60 := rfl
theorem sh_n_73 : pm_len X (pm_S0 ++ g) 73 = some 60 := rfl
theorem sh_o_74 : pm_isO (pm_S0 ++ g) 74 4 = true := rfl
theorem sh_r_74_2 : pm_rg (pm_S0 ++ g) 74 4 2 = some (.ref 75) := rfl
theorem sh_i_75 : pm_la (pm_S0 ++ g) J 75 i = if pm_bad i 60 = true then none else some (J 75 i.toNatClampNeg) := rfl
theorem sh_w_75 : pm_okw (pm_S0 ++ g) 4 75 i = !pm_bad i 60 := rfl
theorem sh_n_75 : pm_len X (pm_S0 ++ g) 75 = some 60 := rfl
theorem sh_o_76 : pm_isO (pm_S0 ++ g) 76 4 = true := rfl
theorem sh_r_76_2 : pm_rg (pm_S0 ++ g) 76 4 2 = some (.ref 77) := rfl
theorem sh_i_77 : pm_la (pm_S0 ++ g) J 77 i = if pm_bad i 60 = true then none else some (J 77 i.toNatClampNeg) := rfl
theorem sh_w_77 : pm_okw (pm_S0 ++ g) 4 77 i = !pm_bad i 60 := rfl
theorem sh_n_77 : pm_len X (pm_S0 ++ g) 77 = some 60 := rfl
theorem sh_o_78 : pm_isO (pm_S0 ++ g) 78 4 = true := rfl
theorem sh_r_78_2 : pm_rg (pm_S0 ++ g) 78 4 2 = some (.ref 79) := rfl
theorem sh_i_79 : pm_la (pm_S0 ++ g) J 79 i = if pm_bad i 60 = true then none else some (J 79 i.toNatClampNeg) := rfl
theorem sh_w_79 : pm_okw (pm_S0 ++ g) 4 79 i = !pm_bad i 60 := rfl
theorem sh_n_79 : pm_len X (pm_S0 ++ g) 79 = some 60 := rfl
theorem sh_o_80 : pm_isO (pm_S0 ++ g) 80 4 = true := rfl
theorem sh_r_80_2 : pm_rg (pm_S0 ++ g) 80 4 2 = some (.ref 81) := rfl
theorem sh_i_81 : pm_la (pm_S0 ++ g) J 81 i = if pm_bad i 60 = true then none else some (J 81 i.toNatClampNeg) := rfl
theorem sh_w_81 : pm_okw (pm_S0 ++ g) 4 81 i = !pm_bad i 60 := rfl
theorem sh_n_81 : pm_len X (pm_S0 ++ g) 81 = some 60 := rfl
theorem sh_o_82 : pm_isO (pm_S0 ++ g) 82 7 = true := rfl
theorem sh_r_82_2 : pm_rg (pm_S0 ++ g) 82 7 2 = some (.ref 83) := rfl
theorem sh_r_82_3 : pm_rg (pm_S0 ++ g) 82 7 3 = some (.ref 84) := rfl
theorem sh_r_82_4 : pm_rg (pm_S0 ++ g) 82 7 4 = some (.ref 85) := rfl
theorem sh_r_82_5 : pm_rg (pm_S0 ++ g) 82 7 5 = some (.ref 86) := rfl
theorem sh_r_82_6 : pm_rg (pm_S0 ++ g) 82 7 6 = some (.ref 87) := rfl
theorem sh_r_82_7 : pm_rg (pm_S0 ++ g) 82 7 7 = some (.ref 88) := rfl
theorem sh_r_82_8 : pm_rg (pm_S0 ++ g) 82 7 8 = some (.ref 89) := rfl
theorem sh_r_82_14 : pm_rg (pm_S0 ++ g) 82 7 14 = some (.ref 90) := rfl
theorem sh_r_82_15 : pm_rg (pm_S0 ++ g) 82 7 15 = some (.ref 91) := rfl
theorem sh_r_82_16 : pm_rg (pm_S0 ++ g) 82 7 16 = some (.ref 92) := rfl
theorem sh_r_82_17 : pm_rg (pm_S0 ++ g) 82 7 17 = some (.ref 93) := rfl
theorem sh_r_82_18 : pm_rg (pm_S0 ++ g) 82 7 18 = some (.ref 94) := rfl
theorem sh_r_82_19 : pm_rg (pm_S0 ++ g) 82 7 19 = some (.ref 95) := rfl
theorem sh_r_82_20 : pm_rg (pm_S0 ++ g) 82 7 20 = some (.ref 96) := rfl
theorem sh_r_82_21 : pm_rg (pm_S0 ++ g) 82 7 21 = some (.ref 97) := rfl
theorem sh_r_82_25 : pm_rg (pm_S0 ++ g) 82 7 25 = some (.ref 98) := rfl
theorem sh_r_82_28 : pm_rg (pm_S0 ++ g) 82 7 28 = some (.ref 99) := rfl
theorem sh_r_82_29 : pm_rg (pm_S0 ++ g) 82 7 29 = some (.ref 100) := rfl
theorem sh_r_82_30 : pm_rg (pm_S0 ++ g) 82 7 30 = some (.ref 101) := rfl
theorem sh_r_82_31 : pm_rg (pm_S0 ++ g) 82 7 31 = some (.ref 102) := rfl
theorem sh_r_82_32 : pm_rg (pm_S0 ++ g) 82 7 32 = some (.ref 103) := rfl
theorem sh_r_82_33 : pm_rg (pm_S0 ++ g) 82 7 33 = some (.ref 104) := rfl
theorem sh_r_82_35 : pm_rg (pm_S0 ++ g) 82 7 35 = some (.ref 105) := rfl
theorem sh_r_82_36 : pm_rg (pm_S0 ++ g) 82 7 36 = some (.ref 106) := rfl
theorem sh_r_82_37 : pm_rg (pm_S0 ++ g) 82 7 37 = some (.ref 107) := rfl
theorem sh_r_82_43 : pm_rg (pm_S0 ++ g) 82 7 43 = some (.ref 108) := rfl
theorem sh_r_82_44 : pm_rg (pm_S0 ++ g) 82 7 44 = some (.ref 109) := rfl
theorem sh_r_82_45 : pm_rg (pm_S0 ++ g) 82 7 45 = some (.ref 110) := rfl
theorem sh_r_82_46 : pm_rg (pm_S0 ++ g) 82 7 46 = some (.ref 111) := rfl
theorem sh_r_82_47 : pm_rg (pm_S0 ++ g) 82 7 47 = some (.ref 112) := rfl
theorem sh_r_82_48 : pm_rg (pm_S0 ++ g) 82 7 48 = some (.ref 113) := rfl
theorem sh_r_82_49 : pm_rg (pm_S0 ++ g) 82 7 49 = some (.ref 114) := rfl
theorem sh_r_82_50 : pm_rg (pm_S0 ++ g) 82 7 50 = some (.ref 115) := rfl
theorem sh_r_82_51 : pm_rg (pm_S0 ++ g) 82 7 51 = some (.ref 116) := rfl
theorem sh_r_82_52 : pm_rg (pm_S0 ++ g) 82 7 52 = some (.ref 117) := rfl
theorem sh_r_82_54 : pm_rg (pm_S0 ++ g) 82 7 54 = some (.ref 118) := rfl
theorem sh_r_82_55 : pm_rg (pm_S0 ++ g) 82 7 55 = some (.ref 119) := rfl
theorem sh_r_82_56 : pm_rg (pm_S0 ++ g) 82 7 56 = some (.ref 120) := rfl
theorem sh_r_82_57 : pm_rg (pm_S0 ++ g) 82 7 57 = some (.ref 121) := rfl
theorem sh_r_82_58 : pm_rg (pm_S0 ++ g) 82 7 58 = some (.ref 122) := rfl
theorem sh_i_83 : pm_ia X (pm_S0 ++ g) I 83 i = if pm_bad i 16 = true then none else some (I 83 i.toNatClampNeg) := rfl
theorem sh_w_83 : pm_okw (pm_S0 ++ g) 1 83 i = !pm_bad i 16 := rfl
theorem sh_n_83 : pm_len X (pm_S0 ++ g) 83 = some 16 := rfl
theorem sh_i_84 : pm_ia X (pm_S0 ++ g) I 84 i = if pm_bad i 16 = true then none else some (I 84 i.toNatClampNeg) := rfl
theorem sh_w_84 : pm_okw (pm_S0 ++ g) 1 84 i = !pm_bad i 16 := rfl
theorem sh_n_84 : pm_len X (pm_S0 ++ g) 84 = some 16 := rfl
theorem sh_i_85 : pm_ia X (pm_S0 ++ g) I 85 i = if pm_bad i 16 = true then none else some (I 85 i.toNatClampNeg) := rfl
theorem sh_w_85 : pm_okw (pm_S0 ++ g) 1 85 i = !pm_bad i 16 := rfl
theorem sh_n_85 : pm_len X (pm_S0 ++ g) 85 = some 16 := rfl
theorem sh_i_86 : pm_ia X (pm_S0 ++ g) I 86 i = if pm_bad i 16 = true then none else some (I 86 i.toNatClampNeg) := rfl
theorem sh_w_86 : pm_okw (pm_S0 ++ g) 1 86 i = !pm_bad i 16 := rfl
theorem sh_n_86 : pm_len X (pm_S0 ++ g) 86 = some 16 := rfl
theorem sh_i_87 : pm_ia X (pm_S0 ++ g) I 87 i = if pm_bad i 16 = true then none else some (I 87 i.toNatClampNeg) := rfl
theorem sh_w_87 : pm_okw (pm_S0 ++ g) 1 87 i = !pm_bad i 16 := rfl
theorem sh_n_87 : pm_len X (pm_S0 ++ g) 87 = some 16 := rfl
theorem sh_i_88 : pm_ia X (pm_S0 ++ g) I 88 i = if pm_bad i 16 = true then none else some (I 88 i.toNatClampNeg) := rfl
theorem sh_w_88 : pm_okw (pm_S0 ++ g) 1 88 i = !pm_bad i 16 := rfl
theorem sh_n_88 : pm_len X (pm_S0 ++ g) 88 = some 16 := rfl
theorem sh_i_89 : pm_ia X (pm_S0 ++ g) I 89 i = if pm_bad i 4 = true then none else some (I 89 i.toNatClampNeg) := rfl
theorem sh_w_89 : pm_okw (pm_S0 ++ g) 1 89 i = !pm_bad i 4 := rfl
theorem sh_n_89 : pm_len X (pm_S0 ++ g) 89 = some 4 := rfl
theorem sh_i_90 : pm_ia X (pm_S0 ++ g) I 90 i = if pm_bad i 100 = true then none else some (I 90 i.toNatClampNeg) := rfl
theorem sh_w_90 : pm_okw (pm_S0 ++ g) 1 90 i = !pm_bad i 100 := rfl
theorem sh_n_90 : pm_len X (pm_S0 ++ g) 90 = some 100 := rfl
theorem sh_i_91 : pm_ia X (pm_S0 ++ g) I 91 i = if pm_bad i 5 = true then none else some (I 91 i.toNatClampNeg) := rfl
theorem sh_w_91 : pm_okw (pm_S0 ++ g) 1 91 i = !pm_bad i 5 := rfl
theorem sh_n_91 : pm_len X (pm_S0 ++ g) 91 = some 5 := rfl
theorem sh_i_92 : pm_ia X (pm_S0 ++ g) I 92 i = if pm_bad i 50 = true then none else some (I 92 i.toNatClampNeg) := rfl
theorem sh_w_92 : pm_okw (pm_S0 ++ g) 1 92 i = !pm_bad i 50 := rfl
theorem sh_n_92 : pm_len X (pm_S0 ++ g) 92 = some 50 := rfl
theorem sh_i_93 : pm_ia X (pm_S0 ++ g) I 93 i = if pm_bad i 50 = true then none else some (I 93 i.toNatClampNeg) := rfl
theorem sh_w_93 : pm_okw (pm_S0 ++ g) 1 93 i = !pm_bad i 50 := rfl
theorem sh_n_93 : pm_len X (pm_S0 ++ g) 93 = some 50 := rfl
theorem sh_i_94 : pm_ia X (pm_S0 ++ g) I 94 i = if pm_bad i 50 = true then none else some (I 94 i.toNatClampNeg) := rfl
theorem sh_w_94 : pm_okw (pm_S0 ++ g) 1 94 i = !pm_bad i 50 := rfl
theorem sh_n_94 : pm_len X (pm_S0 ++ g) 94 = some 50 := rfl
theorem sh_i_95 : pm_ia X (pm_S0 ++ g) I 95 i = if pm_bad i 50 = true then none else some (I 95 i.toNatClampNeg) := rfl
theorem sh_w_95 : pm_okw (pm_S0 ++ g) 1 95 i = !pm_bad i 50 := rfl
theorem sh_n_95 : pm_len X (pm_S0 ++ g) 95 = some 50 := rfl
theorem sh_i_96 : pm_ia X (pm_S0 ++ g) I 96 i = if pm_bad i 500 = true then none else some (I 96 i.toNatClampNeg) := rfl
theorem sh_w_96 : pm_okw (pm_S0 ++ g) 1 96 i = !pm_bad i 500 := rfl
theorem sh_n_96 : pm_len X (pm_S0 ++ g) 96 = some 500 := rfl
theorem sh_i_97 : pm_ia X (pm_S0 ++ g) I 97 i = if pm_bad i 101 = true then none else some (I 97 i.toNatClampNeg) := rfl
theorem sh_w_97 : pm_okw (pm_S0 ++ g) 1 97 i = !pm_bad i 101 := rfl
theorem sh_n_97 : pm_len X (pm_S0 ++ g) 97 = some 101 := rfl
theorem sh_i_98 : pm_ba (pm_S0 ++ g) I 98 i = if pm_bad i 100 = true then none else some (I 98 i.toNatClampNeg) := rfl
theorem sh_w_98 : pm_okw (pm_S0 ++ g) 3 98 i = !pm_bad i 100 := rfl
theorem sh_w2_98 : pm_okw (pm_S0 ++ g) 2 98 i = false := rfl
theorem sh_n_98 : pm_len X (pm_S0 ++ g) 98 = some 100 := rfl
theorem sh_i_99 : pm_ia X (pm_S0 ++ g) I 99 i = if pm_bad i 16 = true then none else some (I 99 i.toNatClampNeg) := rfl
theorem sh_w_99 : pm_okw (pm_S0 ++ g) 1 99 i = !pm_bad i 16 := rfl
theorem sh_n_99 : pm_len X (pm_S0 ++ g) 99 = some 16 := rfl
theorem sh_i_100 : pm_ia X (pm_S0 ++ g) I 100 i = if pm_bad i 16 = true then none else some (I 100 i.toNatClampNeg) := rfl
theorem sh_w_100 : pm_okw (pm_S0 ++ g) 1 100 i = !pm_bad i 16 := rfl
theorem sh_n_100 : pm_len X (pm_S0 ++ g) 100 = some 16 := rfl
theorem sh_i_101 : pm_ia X (pm_S0 ++ g) I 101 i = if pm_bad i 16 = true then none else some (I 101 i.toNatClampNeg) := rfl
theorem sh_w_101 : pm_okw (pm_S0 ++ g) 1 101 i = !pm_bad i 16 := rfl
theorem sh_n_101 : pm_len X (pm_S0 ++ g) 101 = some 16 := rfl
theorem sh_i_102 : pm_ia X (pm_S0 ++ g) I 102 i = if pm_bad i 16 = true then none else some (I 102 i.toNatClampNeg) := rfl
theorem sh_w_102 : pm_okw (pm_S0 ++ g) 1 102 i = !pm_bad i 16 := rfl
theorem sh_n_102 : pm_len X (pm_S0 ++ g) 102 = some 16 := rfl
theorem sh_i_103 : pm_ia X (pm_S0 ++ g) I 103 i = if pm_bad i 16 = true then none else some (I 103 i.toNatClampNeg) := rfl
theorem sh_w_103 : pm_okw (pm_S0 ++ g) 1 103 i = !pm_bad i 16 := rfl
theorem sh_n_103 : pm_len X (pm_S0 ++ g) 103 = some 16 := rfl
theorem sh_i_104 : pm_ia X (pm_S0 ++ g) I 104 i = if pm_bad i 16 = true then none else some (I 104 i.toNatClampNeg) := rfl
theorem sh_w_104 : pm_okw (pm_S0 ++ g) 1 104 i = !pm_bad i 16 := rfl
theorem sh_n_104 : pm_len X (pm_S0 ++ g) 104 = some 16 := rfl
theorem sh_i_105 : pm_ia X (pm_S0 ++ g) I 105 i = if pm_bad i 10 = true then none else some (I 105 i.toNatClampNeg) := rfl
theorem sh_w_105 : pm_okw (pm_S0 ++ g) 1 105 i = !pm_bad i 10 := rfl
theorem sh_n_105 : pm_len X (pm_S0 ++ g) 105 = some 10 := rfl
theorem sh_i_106 : pm_ia X (pm_S0 ++ g) I 106 i = if pm_bad i 10 = true then none else some (I 106 i.toNatClampNeg) := rfl
theorem sh_w_106 : pm_okw (pm_S0 ++ g) 1 106 i = !pm_bad i 10 := rfl
theorem sh_n_106 : pm_len X (pm_S0 ++ g) 106 = some 10 := rfl
theorem sh_i_107 : pm_ia X (pm_S0 ++ g) I 107 i = if pm_bad i 10 = true then none else some (I 107 i.toNatClampNeg) := rfl
theorem sh_w_107 : pm_okw (pm_S0 ++ g) 1 107 i = !pm_bad i 10 := rfl
theorem sh_n_107 : pm_len X (pm_S0 ++ g) 107 = some 10 := rfl
theorem sh_i_108 : pm_ia X (pm_S0 ++ g) I 108 i = if pm_bad i 16 = true then none else some (I 108 i.toNatClampNeg) := rfl
theorem sh_w_108 : pm_okw (pm_S0 ++ g) 1 108 i = !pm_bad i 16 := rfl
theorem sh_n_108 : pm_len X (pm_S0 ++ g) 108 = some 16 := rfl
theorem sh_i_109 : pm_ia X (pm_S0 ++ g) I 109 i = if pm_bad i 16 = true then none else some (I 109 i.toNatClampNeg) := rfl
theorem sh_w_109 : pm_okw (pm_S0 ++ g) 1 109 i = !pm_bad i 16 := rfl
theorem sh_n_109 : pm_len X (pm_S0 ++ g) 109 = some 16 := rfl
theorem sh_i_110 : pm_ia X (pm_S0 ++ g) I 110 i = if pm_bad i 16 = true then none else some (I 110 i.toNatClampNeg) := rfl
theorem sh_w_110 : pm_okw (pm_S0 ++ g) 1 110 i = !pm_bad i 16 := rfl
theorem sh_n_110 : pm_len X (pm_S0 ++ g) 110 = some 16 := rfl
theorem sh_i_111 : pm_ia X (pm_S0 ++ g) I 111 i = if pm_bad i 16 = true then none else some (I 111 i.toNatClampNeg) := rfl
theorem sh_w_111 : pm_okw (pm_S0 ++ g) 1 111 i = !pm_bad i 16 := rfl
theorem sh_n_111 : pm_len X (pm_S0 ++ g) 111 = some 16 := rfl
theorem sh_i_112 : pm_ia X (pm_S0 ++ g) I 112 i = if pm_bad i 16 = true then none else some (I 112 i.toNatClampNeg) := rfl
theorem sh_w_112 : pm_okw (pm_S0 ++ g) 1 112 i = !pm_bad i 16 := rfl
theorem sh_n_112 : pm_len X (pm_S0 ++ g) 112 = some 16 := rfl
theorem sh_i_113 : pm_ia X (pm_S0 ++ g) I 113 i = if pm_bad i 16 = true then none else some (I 113 i.toNatClampNeg) := rfl
theorem sh_w_113 : pm_okw (pm_S0 ++ g) 1 113 i = !pm_bad i 16 := rfl
theorem sh_n_113 : pm_len X (pm_S0 ++ g) 113 = some 16 := rfl
theorem sh_i_114 : pm_ia X (pm_S0 ++ g) I 114 i = if pm_bad i 4 = true then none else some (I 114 i.toNatClampNeg) := rfl
theorem sh_w_114 : pm_okw (pm_S0 ++ g) 1 114 i = !pm_bad i 4 := rfl
theorem sh_n_114 : pm_len X (pm_S0 ++ g) 114 = some 4 := rfl
theorem sh_i_115 : pm_ia X (pm_S0 ++ g) I 115 i = if pm_bad i 10 = true then none else some (I 115 i.toNatClampNeg) := rfl
theorem sh_w_115 : pm_okw (pm_S0 ++ g) 1 115 i = !pm_bad i 10 := rfl
theorem sh_n_115 : pm_len X (pm_S0 ++ g) 115 = some 10 := rfl
theorem sh_i_116 : pm_ia X (pm_S0 ++ g) I 116 i = if pm_bad i 10 = true then none else some (I 116 i.toNatClampNeg) := rfl
theorem sh_w_116 : pm_okw (pm_S0 ++ g) 1 116 i = !pm_bad i 10 := rfl
theorem sh_n_116 : pm_len X (pm_S0 ++ g) 116 = some 10 := rfl
theorem sh_i_117 : pm_ia X (pm_S0 ++ g) I 117 i = if pm_bad i 10 = true then none else some (I 117 i.toNatClampNeg) := rfl
theorem sh_w_117 : pm_okw (pm_S0 ++ g) 1 117 i = !pm_bad i 10 := rfl
theorem sh_n_117 : pm_len X (pm_S0 ++ g) 117 = some 10 := rfl
theorem sh_i_118 : pm_ia X (pm_S0 ++ g) I 118 i = if pm_bad i 20 = true then none else some (I 118 i.toNatClampNeg) := rfl
theorem sh_w_118 : pm_okw (pm_S0 ++ g) 1 118 i = !pm_bad i 20 := rfl
theorem sh_n_118 : pm_len X (pm_S0 ++ g) 118 = some 20 := rfl
theorem sh_i_119 : pm_ia X (pm_S0 ++ g) I 119 i = if pm_bad i 6 = true then none else some (I 119 i.toNatClampNeg) := rfl
theorem sh_w_119 : pm_okw (pm_S0 ++ g) 1 119 i = !pm_bad i 6 := rfl
theorem sh_n_119 : pm_len X (pm_S0 ++ g) 119 = some 6 := rfl
theorem sh_i_120 : pm_ia X (pm_S0 ++ g) I 120 i = if pm_bad i 6 = true then none else some (I 120 i.toNatClampNeg) := rfl
theorem sh_w_120 : pm_okw (pm_S0 ++ g) 1 120 i = !pm_bad i 6 := rfl
theorem sh_n_120 : pm_len X (pm_S0 ++ g) 120 = some 6 := rfl
theorem sh_i_121 : pm_la (pm_S0 ++ g) J 121 i = if pm_bad i 360 = true then none else some (J 121 i.toNatClampNeg) := rfl
theorem sh_w_121 : pm_okw (pm_S0 ++ g) 4 121 i = !pm_bad i 360 := rfl
theorem sh_n_121 : pm_len X (pm_S0 ++ g) 121 = some 360 := rfl
theorem sh_i_122 : pm_la (pm_S0 ++ g) J 122 i = if pm_bad i 60 = true then none else some (J 122 i.toNatClampNeg) := rfl
theorem sh_w_122 : pm_okw (pm_S0 ++ g) 4 122 i = !pm_bad i 60 := rfl
theorem sh_n_122 : pm_len X (pm_S0 ++ g) 122 = some 60 := rfl
end PSH
