/-! THE TABLES ON THE JVM'S SIDE, printed by wip/whole/gen3.py -/
def pm_Cs : List String := ["IceBears", "IceBears$Pond", "IceBears$Ice", "IceBears$Winter", "IceBears$Tape", "IceBears$Acts", "IceBears$Reader", "IceBearsModel", "IceBearsLaw"]
def pm_C (ci : Nat) : String := pm_Cs.getD ci ""
def pm_T0 : u_T := fun k => match k with
  | 0 => ("IceBears", "now", "LIceBears$Pond;", true)
  | 1 => ("IceBears", "kept", "LIceBears$Pond;", true)
  | 2 => ("IceBears", "isKept", "Z", false)
  | 3 => ("IceBears", "text", "[B", true)
  | 4 => ("IceBears", "textLength", "I", false)
  | 5 => ("IceBears", "noWinter", "LIceBears$Winter;", true)
  | 6 => ("IceBears", "winters", "[LIceBears$Winter;", true)
  | 7 => ("IceBears", "winterCount", "I", false)
  | 8 => ("IceBears", "tapes", "[LIceBears$Tape;", true)
  | 9 => ("IceBears", "acts", "LIceBears$Acts;", true)
  | 10 => ("IceBears", "asked", "LIceBears$Ice;", true)
  | 11 => ("IceBears", "askedToo", "LIceBears$Ice;", true)
  | 12 => ("IceBears", "supposed", "[I", true)
  | _ => ("IceBears", "loads", "[I", true)
def pm_Y0 : Nat → FieldType := fun k => match k with
  | 0 => (.object "IceBears$Pond")
  | 1 => (.object "IceBears$Pond")
  | 2 => .boolean
  | 3 => (.array .byte)
  | 4 => .int
  | 5 => (.object "IceBears$Winter")
  | 6 => (.array (.object "IceBears$Winter"))
  | 7 => .int
  | 8 => (.array (.object "IceBears$Tape"))
  | 9 => (.object "IceBears$Acts")
  | 10 => (.object "IceBears$Ice")
  | 11 => (.object "IceBears$Ice")
  | 12 => (.array .int)
  | _ => (.array .int)
def pm_T1 : u_T := fun k => match k with
  | 0 => ("IceBears$Pond", "ice", "LIceBears$Ice;", true)
  | 1 => ("IceBears$Pond", "children", "[I", true)
  | 2 => ("IceBears$Pond", "kinds", "[I", true)
  | 3 => ("IceBears$Pond", "values", "[I", true)
  | 4 => ("IceBears$Pond", "hour", "I", false)
  | 5 => ("IceBears$Pond", "warmDays", "I", false)
  | 6 => ("IceBears$Pond", "odds", "[I", true)
  | 7 => ("IceBears$Pond", "holeCells", "[I", true)
  | 8 => ("IceBears$Pond", "holeHours", "[I", true)
  | 9 => ("IceBears$Pond", "holeThick", "[I", true)
  | 10 => ("IceBears$Pond", "holes", "I", false)
  | _ => ("IceBears$Pond", "holds", "I", false)
def pm_Y1 : Nat → FieldType := fun k => match k with
  | 0 => (.object "IceBears$Ice")
  | 1 => (.array .int)
  | 2 => (.array .int)
  | 3 => (.array .int)
  | 4 => .int
  | 5 => .int
  | 6 => (.array .int)
  | 7 => (.array .int)
  | 8 => (.array .int)
  | 9 => (.array .int)
  | 10 => .int
  | _ => .int
def pm_T2 : u_T := fun k => match k with
  | 0 => ("IceBears$Ice", "clear", "[I", true)
  | 1 => ("IceBears$Ice", "white", "[I", true)
  | _ => ("IceBears$Ice", "snow", "[I", true)
def pm_Y2 : Nat → FieldType := fun k => match k with
  | 0 => (.array .int)
  | 1 => (.array .int)
  | _ => (.array .int)
def pm_T3 : u_T := fun k => match k with
  | 0 => ("IceBears$Winter", "sorts", "[I", true)
  | 1 => ("IceBears$Winter", "amounts", "[I", true)
  | 2 => ("IceBears$Winter", "ends", "[I", true)
  | 3 => ("IceBears$Winter", "clauses", "I", false)
  | 4 => ("IceBears$Winter", "code", "[I", true)
  | _ => ("IceBears$Winter", "length", "I", false)
def pm_Y3 : Nat → FieldType := fun k => match k with
  | 0 => (.array .int)
  | 1 => (.array .int)
  | 2 => (.array .int)
  | 3 => .int
  | 4 => (.array .int)
  | _ => .int
def pm_T4 : u_T := fun k => match k with
  | 0 => ("IceBears$Tape", "sort", "I", false)
  | 1 => ("IceBears$Tape", "length", "I", false)
  | _ => ("IceBears$Tape", "items", "[J", true)
def pm_Y4 : Nat → FieldType := fun k => match k with
  | 0 => .int
  | 1 => .int
  | _ => (.array .long)
def pm_T5 : u_T := fun k => match k with
  | 0 => ("IceBears$Acts", "noted", "[I", true)
  | 1 => ("IceBears$Acts", "ran", "I", false)
  | 2 => ("IceBears$Acts", "cell", "I", false)
  | 3 => ("IceBears$Acts", "kind", "I", false)
  | _ => ("IceBears$Acts", "value", "I", false)
def pm_Y5 : Nat → FieldType := fun k => match k with
  | 0 => (.array .int)
  | 1 => .int
  | 2 => .int
  | 3 => .int
  | _ => .int
def pm_T6 : u_T := fun k => match k with
  | 0 => ("IceBears$Reader", "text", "[B", true)
  | 1 => ("IceBears$Reader", "length", "I", true)
  | 2 => ("IceBears$Reader", "into", "LIceBears$Winter;", true)
  | 3 => ("IceBears$Reader", "place", "I", false)
  | _ => ("IceBears$Reader", "number", "I", false)
def pm_Y6 : Nat → FieldType := fun k => match k with
  | 0 => (.array .byte)
  | 1 => .int
  | 2 => (.object "IceBears$Winter")
  | 3 => .int
  | _ => .int
def pm_T7 : u_T := fun k => match k with
  | 0 => ("IceBearsModel", "hour", "I", false)
  | 1 => ("IceBearsModel", "warmDays", "I", false)
  | 2 => ("IceBearsModel", "clear", "[I", true)
  | 3 => ("IceBearsModel", "white", "[I", true)
  | 4 => ("IceBearsModel", "snow", "[I", true)
  | 5 => ("IceBearsModel", "kids", "[I", true)
  | 6 => ("IceBearsModel", "kind", "[I", true)
  | 7 => ("IceBearsModel", "v", "[I", true)
  | 8 => ("IceBearsModel", "odds", "[I", true)
  | 9 => ("IceBearsModel", "winters", "I", false)
  | 10 => ("IceBearsModel", "the", "I", false)
  | 11 => ("IceBearsModel", "fed", "I", false)
  | 12 => ("IceBearsModel", "at", "I", false)
  | 13 => ("IceBearsModel", "digits", "I", false)
  | 14 => ("IceBearsModel", "text", "[I", true)
  | 15 => ("IceBearsModel", "clauses", "[I", true)
  | 16 => ("IceBearsModel", "word", "[I", true)
  | 17 => ("IceBearsModel", "number", "[I", true)
  | 18 => ("IceBearsModel", "from", "[I", true)
  | 19 => ("IceBearsModel", "to", "[I", true)
  | 20 => ("IceBearsModel", "sign", "[I", true)
  | 21 => ("IceBearsModel", "waits", "[I", true)
  | 22 => ("IceBearsModel", "signs", "I", false)
  | 23 => ("IceBearsModel", "waiting", "I", false)
  | 24 => ("IceBearsModel", "open", "I", false)
  | 25 => ("IceBearsModel", "pile", "[Z", true)
  | 26 => ("IceBearsModel", "now", "I", false)
  | 27 => ("IceBearsModel", "lampAt", "I", false)
  | 28 => ("IceBearsModel", "atClear", "[I", true)
  | 29 => ("IceBearsModel", "atWhite", "[I", true)
  | 30 => ("IceBearsModel", "atSnow", "[I", true)
  | 31 => ("IceBearsModel", "load", "[I", true)
  | 32 => ("IceBearsModel", "far", "[I", true)
  | 33 => ("IceBearsModel", "thickThen", "[I", true)
  | 34 => ("IceBearsModel", "holes", "I", false)
  | 35 => ("IceBearsModel", "holeCell", "[I", true)
  | 36 => ("IceBearsModel", "holeHour", "[I", true)
  | 37 => ("IceBearsModel", "holeThick", "[I", true)
  | 38 => ("IceBearsModel", "hasImage", "Z", false)
  | 39 => ("IceBearsModel", "imageThe", "I", false)
  | 40 => ("IceBearsModel", "imageHour", "I", false)
  | 41 => ("IceBearsModel", "imageWarm", "I", false)
  | 42 => ("IceBearsModel", "imageHoles", "I", false)
  | 43 => ("IceBearsModel", "imageClear", "[I", true)
  | 44 => ("IceBearsModel", "imageWhite", "[I", true)
  | 45 => ("IceBearsModel", "imageSnow", "[I", true)
  | 46 => ("IceBearsModel", "imageKids", "[I", true)
  | 47 => ("IceBearsModel", "imageKind", "[I", true)
  | 48 => ("IceBearsModel", "imageV", "[I", true)
  | 49 => ("IceBearsModel", "imageOdds", "[I", true)
  | 50 => ("IceBearsModel", "imageHoleCell", "[I", true)
  | 51 => ("IceBearsModel", "imageHoleHour", "[I", true)
  | 52 => ("IceBearsModel", "imageHoleThick", "[I", true)
  | 53 => ("IceBearsModel", "ran", "I", false)
  | 54 => ("IceBearsModel", "bodies", "[I", true)
  | 55 => ("IceBearsModel", "sort", "[I", true)
  | 56 => ("IceBearsModel", "length", "[I", true)
  | 57 => ("IceBearsModel", "item", "[J", true)
  | _ => ("IceBearsModel", "aside", "[J", true)
def pm_Y7 : Nat → FieldType := fun k => match k with
  | 0 => .int
  | 1 => .int
  | 2 => (.array .int)
  | 3 => (.array .int)
  | 4 => (.array .int)
  | 5 => (.array .int)
  | 6 => (.array .int)
  | 7 => (.array .int)
  | 8 => (.array .int)
  | 9 => .int
  | 10 => .int
  | 11 => .int
  | 12 => .int
  | 13 => .int
  | 14 => (.array .int)
  | 15 => (.array .int)
  | 16 => (.array .int)
  | 17 => (.array .int)
  | 18 => (.array .int)
  | 19 => (.array .int)
  | 20 => (.array .int)
  | 21 => (.array .int)
  | 22 => .int
  | 23 => .int
  | 24 => .int
  | 25 => (.array .boolean)
  | 26 => .int
  | 27 => .int
  | 28 => (.array .int)
  | 29 => (.array .int)
  | 30 => (.array .int)
  | 31 => (.array .int)
  | 32 => (.array .int)
  | 33 => (.array .int)
  | 34 => .int
  | 35 => (.array .int)
  | 36 => (.array .int)
  | 37 => (.array .int)
  | 38 => .boolean
  | 39 => .int
  | 40 => .int
  | 41 => .int
  | 42 => .int
  | 43 => (.array .int)
  | 44 => (.array .int)
  | 45 => (.array .int)
  | 46 => (.array .int)
  | 47 => (.array .int)
  | 48 => (.array .int)
  | 49 => (.array .int)
  | 50 => (.array .int)
  | 51 => (.array .int)
  | 52 => (.array .int)
  | 53 => .int
  | 54 => (.array .int)
  | 55 => (.array .int)
  | 56 => (.array .int)
  | 57 => (.array .long)
  | _ => (.array .long)
def pm_T (ci : Nat) : u_T := match ci with
  | 0 => pm_T0
  | 1 => pm_T1
  | 2 => pm_T2
  | 3 => pm_T3
  | 4 => pm_T4
  | 5 => pm_T5
  | 6 => pm_T6
  | _ => pm_T7
def pm_Y (ci : Nat) : Nat → FieldType := match ci with
  | 0 => pm_Y0
  | 1 => pm_Y1
  | 2 => pm_Y2
  | 3 => pm_Y3
  | 4 => pm_Y4
  | 5 => pm_Y5
  | 6 => pm_Y6
  | _ => pm_Y7
def pm_cl8 : List vw_C := [(pm_C 0, pm_T 0, pm_nf 0), (pm_C 1, pm_T 1, pm_nf 1), (pm_C 2, pm_T 2, pm_nf 2), (pm_C 3, pm_T 3, pm_nf 3), (pm_C 4, pm_T 4, pm_nf 4), (pm_C 5, pm_T 5, pm_nf 5), (pm_C 6, pm_T 6, pm_nf 6), (pm_C 7, pm_T 7, pm_nf 7)]
theorem pm_cl8_at : ∀ ci, ci < 8 → pm_cl8[ci]? = some (pm_C ci, pm_T ci, pm_nf ci) := by
  intro ci h
  match ci, h with
  | 0, _ => rfl
  | 1, _ => rfl
  | 2, _ => rfl
  | 3, _ => rfl
  | 4, _ => rfl
  | 5, _ => rfl
  | 6, _ => rfl
  | 7, _ => rfl
  | n + 8, h => omega
theorem pm_in0 : ∀ w ∈ u_ws (pm_C 0) (pm_T 0) (pm_nf 0), w ∈ lw_tbl.filter goodWord := by decide +kernel
theorem pm_ty0 : ∀ k, k < pm_nf 0 → parseFieldDescriptor (pm_T 0 k).2.2.1 = some (pm_Y 0 k) := by decide +kernel
theorem pm_nm0 : ∀ a, a < pm_nf 0 → ∀ b, b < pm_nf 0 → a ≠ b → (pm_T 0 a).2.1 ≠ (pm_T 0 b).2.1 := by decide +kernel
theorem pm_fy0 : ∀ k, k < pm_nf 0 → (pm_ft 0 k = 0 → pm_Y 0 k = .int) ∧ (pm_ft 0 k = 1 → pm_Y 0 k = .boolean) ∧ (pm_ft 0 k = 2 → (defaultValue (pm_Y 0 k) = .null ∧ ∀ a : Nat, narrow (pm_Y 0 k) (.ref a) = .ref a ∧ fits (pm_Y 0 k) (.ref a) = true)) ∧ pm_ft 0 k ≤ 2 := by
  intro k hk
  have hk : k < 14 := hk
  match k, hk with
  | 0, _ => exact ⟨fun h => by first | rfl | exact absurd h (by decide), fun h => by first | rfl | exact absurd h (by decide), fun h => by first | exact ⟨rfl, fun a => ⟨rfl, rfl⟩⟩ | exact absurd h (by decide), by decide⟩
  | 1, _ => exact ⟨fun h => by first | rfl | exact absurd h (by decide), fun h => by first | rfl | exact absurd h (by decide), fun h => by first | exact ⟨rfl, fun a => ⟨rfl, rfl⟩⟩ | exact absurd h (by decide), by decide⟩
  | 2, _ => exact ⟨fun h => by first | rfl | exact absurd h (by decide), fun h => by first | rfl | exact absurd h (by decide), fun h => by first | exact ⟨rfl, fun a => ⟨rfl, rfl⟩⟩ | exact absurd h (by decide), by decide⟩
  | 3, _ => exact ⟨fun h => by first | rfl | exact absurd h (by decide), fun h => by first | rfl | exact absurd h (by decide), fun h => by first | exact ⟨rfl, fun a => ⟨rfl, rfl⟩⟩ | exact absurd h (by decide), by decide⟩
  | 4, _ => exact ⟨fun h => by first | rfl | exact absurd h (by decide), fun h => by first | rfl | exact absurd h (by decide), fun h => by first | exact ⟨rfl, fun a => ⟨rfl, rfl⟩⟩ | exact absurd h (by decide), by decide⟩
  | 5, _ => exact ⟨fun h => by first | rfl | exact absurd h (by decide), fun h => by first | rfl | exact absurd h (by decide), fun h => by first | exact ⟨rfl, fun a => ⟨rfl, rfl⟩⟩ | exact absurd h (by decide), by decide⟩
  | 6, _ => exact ⟨fun h => by first | rfl | exact absurd h (by decide), fun h => by first | rfl | exact absurd h (by decide), fun h => by first | exact ⟨rfl, fun a => ⟨rfl, rfl⟩⟩ | exact absurd h (by decide), by decide⟩
  | 7, _ => exact ⟨fun h => by first | rfl | exact absurd h (by decide), fun h => by first | rfl | exact absurd h (by decide), fun h => by first | exact ⟨rfl, fun a => ⟨rfl, rfl⟩⟩ | exact absurd h (by decide), by decide⟩
  | 8, _ => exact ⟨fun h => by first | rfl | exact absurd h (by decide), fun h => by first | rfl | exact absurd h (by decide), fun h => by first | exact ⟨rfl, fun a => ⟨rfl, rfl⟩⟩ | exact absurd h (by decide), by decide⟩
  | 9, _ => exact ⟨fun h => by first | rfl | exact absurd h (by decide), fun h => by first | rfl | exact absurd h (by decide), fun h => by first | exact ⟨rfl, fun a => ⟨rfl, rfl⟩⟩ | exact absurd h (by decide), by decide⟩
  | 10, _ => exact ⟨fun h => by first | rfl | exact absurd h (by decide), fun h => by first | rfl | exact absurd h (by decide), fun h => by first | exact ⟨rfl, fun a => ⟨rfl, rfl⟩⟩ | exact absurd h (by decide), by decide⟩
  | 11, _ => exact ⟨fun h => by first | rfl | exact absurd h (by decide), fun h => by first | rfl | exact absurd h (by decide), fun h => by first | exact ⟨rfl, fun a => ⟨rfl, rfl⟩⟩ | exact absurd h (by decide), by decide⟩
  | 12, _ => exact ⟨fun h => by first | rfl | exact absurd h (by decide), fun h => by first | rfl | exact absurd h (by decide), fun h => by first | exact ⟨rfl, fun a => ⟨rfl, rfl⟩⟩ | exact absurd h (by decide), by decide⟩
  | 13, _ => exact ⟨fun h => by first | rfl | exact absurd h (by decide), fun h => by first | rfl | exact absurd h (by decide), fun h => by first | exact ⟨rfl, fun a => ⟨rfl, rfl⟩⟩ | exact absurd h (by decide), by decide⟩
  | k + 14, h => exact absurd h (by omega)
theorem pm_in1 : ∀ w ∈ u_ws (pm_C 1) (pm_T 1) (pm_nf 1), w ∈ lw_tbl.filter goodWord := by decide +kernel
theorem pm_ty1 : ∀ k, k < pm_nf 1 → parseFieldDescriptor (pm_T 1 k).2.2.1 = some (pm_Y 1 k) := by decide +kernel
theorem pm_nm1 : ∀ a, a < pm_nf 1 → ∀ b, b < pm_nf 1 → a ≠ b → (pm_T 1 a).2.1 ≠ (pm_T 1 b).2.1 := by decide +kernel
theorem pm_fy1 : ∀ k, k < pm_nf 1 → (pm_ft 1 k = 0 → pm_Y 1 k = .int) ∧ (pm_ft 1 k = 1 → pm_Y 1 k = .boolean) ∧ (pm_ft 1 k = 2 → (defaultValue (pm_Y 1 k) = .null ∧ ∀ a : Nat, narrow (pm_Y 1 k) (.ref a) = .ref a ∧ fits (pm_Y 1 k) (.ref a) = true)) ∧ pm_ft 1 k ≤ 2 := by
  intro k hk
  have hk : k < 12 := hk
  match k, hk with
  | 0, _ => exact ⟨fun h => by first | rfl | exact absurd h (by decide), fun h => by first | rfl | exact absurd h (by decide), fun h => by first | exact ⟨rfl, fun a => ⟨rfl, rfl⟩⟩ | exact absurd h (by decide), by decide⟩
  | 1, _ => exact ⟨fun h => by first | rfl | exact absurd h (by decide), fun h => by first | rfl | exact absurd h (by decide), fun h => by first | exact ⟨rfl, fun a => ⟨rfl, rfl⟩⟩ | exact absurd h (by decide), by decide⟩
  | 2, _ => exact ⟨fun h => by first | rfl | exact absurd h (by decide), fun h => by first | rfl | exact absurd h (by decide), fun h => by first | exact ⟨rfl, fun a => ⟨rfl, rfl⟩⟩ | exact absurd h (by decide), by decide⟩
  | 3, _ => exact ⟨fun h => by first | rfl | exact absurd h (by decide), fun h => by first | rfl | exact absurd h (by decide), fun h => by first | exact ⟨rfl, fun a => ⟨rfl, rfl⟩⟩ | exact absurd h (by decide), by decide⟩
  | 4, _ => exact ⟨fun h => by first | rfl | exact absurd h (by decide), fun h => by first | rfl | exact absurd h (by decide), fun h => by first | exact ⟨rfl, fun a => ⟨rfl, rfl⟩⟩ | exact absurd h (by decide), by decide⟩
  | 5, _ => exact ⟨fun h => by first | rfl | exact absurd h (by decide), fun h => by first | rfl | exact absurd h (by decide), fun h => by first | exact ⟨rfl, fun a => ⟨rfl, rfl⟩⟩ | exact absurd h (by decide), by decide⟩
  | 6, _ => exact ⟨fun h => by first | rfl | exact absurd h (by decide), fun h => by first | rfl | exact absurd h (by decide), fun h => by first | exact ⟨rfl, fun a => ⟨rfl, rfl⟩⟩ | exact absurd h (by decide), by decide⟩
  | 7, _ => exact ⟨fun h => by first | rfl | exact absurd h (by decide), fun h => by first | rfl | exact absurd h (by decide), fun h => by first | exact ⟨rfl, fun a => ⟨rfl, rfl⟩⟩ | exact absurd h (by decide), by decide⟩
  | 8, _ => exact ⟨fun h => by first | rfl | exact absurd h (by decide), fun h => by first | rfl | exact absurd h (by decide), fun h => by first | exact ⟨rfl, fun a => ⟨rfl, rfl⟩⟩ | exact absurd h (by decide), by decide⟩
  | 9, _ => exact ⟨fun h => by first | rfl | exact absurd h (by decide), fun h => by first | rfl | exact absurd h (by decide), fun h => by first | exact ⟨rfl, fun a => ⟨rfl, rfl⟩⟩ | exact absurd h (by decide), by decide⟩
  | 10, _ => exact ⟨fun h => by first | rfl | exact absurd h (by decide), fun h => by first | rfl | exact absurd h (by decide), fun h => by first | exact ⟨rfl, fun a => ⟨rfl, rfl⟩⟩ | exact absurd h (by decide), by decide⟩
  | 11, _ => exact ⟨fun h => by first | rfl | exact absurd h (by decide), fun h => by first | rfl | exact absurd h (by decide), fun h => by first | exact ⟨rfl, fun a => ⟨rfl, rfl⟩⟩ | exact absurd h (by decide), by decide⟩
  | k + 12, h => exact absurd h (by omega)
theorem pm_in2 : ∀ w ∈ u_ws (pm_C 2) (pm_T 2) (pm_nf 2), w ∈ lw_tbl.filter goodWord := by decide +kernel
theorem pm_ty2 : ∀ k, k < pm_nf 2 → parseFieldDescriptor (pm_T 2 k).2.2.1 = some (pm_Y 2 k) := by decide +kernel
theorem pm_nm2 : ∀ a, a < pm_nf 2 → ∀ b, b < pm_nf 2 → a ≠ b → (pm_T 2 a).2.1 ≠ (pm_T 2 b).2.1 := by decide +kernel
theorem pm_fy2 : ∀ k, k < pm_nf 2 → (pm_ft 2 k = 0 → pm_Y 2 k = .int) ∧ (pm_ft 2 k = 1 → pm_Y 2 k = .boolean) ∧ (pm_ft 2 k = 2 → (defaultValue (pm_Y 2 k) = .null ∧ ∀ a : Nat, narrow (pm_Y 2 k) (.ref a) = .ref a ∧ fits (pm_Y 2 k) (.ref a) = true)) ∧ pm_ft 2 k ≤ 2 := by
  intro k hk
  have hk : k < 3 := hk
  match k, hk with
  | 0, _ => exact ⟨fun h => by first | rfl | exact absurd h (by decide), fun h => by first | rfl | exact absurd h (by decide), fun h => by first | exact ⟨rfl, fun a => ⟨rfl, rfl⟩⟩ | exact absurd h (by decide), by decide⟩
  | 1, _ => exact ⟨fun h => by first | rfl | exact absurd h (by decide), fun h => by first | rfl | exact absurd h (by decide), fun h => by first | exact ⟨rfl, fun a => ⟨rfl, rfl⟩⟩ | exact absurd h (by decide), by decide⟩
  | 2, _ => exact ⟨fun h => by first | rfl | exact absurd h (by decide), fun h => by first | rfl | exact absurd h (by decide), fun h => by first | exact ⟨rfl, fun a => ⟨rfl, rfl⟩⟩ | exact absurd h (by decide), by decide⟩
  | k + 3, h => exact absurd h (by omega)
theorem pm_in3 : ∀ w ∈ u_ws (pm_C 3) (pm_T 3) (pm_nf 3), w ∈ lw_tbl.filter goodWord := by decide +kernel
theorem pm_ty3 : ∀ k, k < pm_nf 3 → parseFieldDescriptor (pm_T 3 k).2.2.1 = some (pm_Y 3 k) := by decide +kernel
theorem pm_nm3 : ∀ a, a < pm_nf 3 → ∀ b, b < pm_nf 3 → a ≠ b → (pm_T 3 a).2.1 ≠ (pm_T 3 b).2.1 := by decide +kernel
theorem pm_fy3 : ∀ k, k < pm_nf 3 → (pm_ft 3 k = 0 → pm_Y 3 k = .int) ∧ (pm_ft 3 k = 1 → pm_Y 3 k = .boolean) ∧ (pm_ft 3 k = 2 → (defaultValue (pm_Y 3 k) = .null ∧ ∀ a : Nat, narrow (pm_Y 3 k) (.ref a) = .ref a ∧ fits (pm_Y 3 k) (.ref a) = true)) ∧ pm_ft 3 k ≤ 2 := by
  intro k hk
  have hk : k < 6 := hk
  match k, hk with
  | 0, _ => exact ⟨fun h => by first | rfl | exact absurd h (by decide), fun h => by first | rfl | exact absurd h (by decide), fun h => by first | exact ⟨rfl, fun a => ⟨rfl, rfl⟩⟩ | exact absurd h (by decide), by decide⟩
  | 1, _ => exact ⟨fun h => by first | rfl | exact absurd h (by decide), fun h => by first | rfl | exact absurd h (by decide), fun h => by first | exact ⟨rfl, fun a => ⟨rfl, rfl⟩⟩ | exact absurd h (by decide), by decide⟩
  | 2, _ => exact ⟨fun h => by first | rfl | exact absurd h (by decide), fun h => by first | rfl | exact absurd h (by decide), fun h => by first | exact ⟨rfl, fun a => ⟨rfl, rfl⟩⟩ | exact absurd h (by decide), by decide⟩
  | 3, _ => exact ⟨fun h => by first | rfl | exact absurd h (by decide), fun h => by first | rfl | exact absurd h (by decide), fun h => by first | exact ⟨rfl, fun a => ⟨rfl, rfl⟩⟩ | exact absurd h (by decide), by decide⟩
  | 4, _ => exact ⟨fun h => by first | rfl | exact absurd h (by decide), fun h => by first | rfl | exact absurd h (by decide), fun h => by first | exact ⟨rfl, fun a => ⟨rfl, rfl⟩⟩ | exact absurd h (by decide), by decide⟩
  | 5, _ => exact ⟨fun h => by first | rfl | exact absurd h (by decide), fun h => by first | rfl | exact absurd h (by decide), fun h => by first | exact ⟨rfl, fun a => ⟨rfl, rfl⟩⟩ | exact absurd h (by decide), by decide⟩
  | k + 6, h => exact absurd h (by omega)
theorem pm_in4 : ∀ w ∈ u_ws (pm_C 4) (pm_T 4) (pm_nf 4), w ∈ lw_tbl.filter goodWord := by decide +kernel
theorem pm_ty4 : ∀ k, k < pm_nf 4 → parseFieldDescriptor (pm_T 4 k).2.2.1 = some (pm_Y 4 k) := by decide +kernel
theorem pm_nm4 : ∀ a, a < pm_nf 4 → ∀ b, b < pm_nf 4 → a ≠ b → (pm_T 4 a).2.1 ≠ (pm_T 4 b).2.1 := by decide +kernel
theorem pm_fy4 : ∀ k, k < pm_nf 4 → (pm_ft 4 k = 0 → pm_Y 4 k = .int) ∧ (pm_ft 4 k = 1 → pm_Y 4 k = .boolean) ∧ (pm_ft 4 k = 2 → (defaultValue (pm_Y 4 k) = .null ∧ ∀ a : Nat, narrow (pm_Y 4 k) (.ref a) = .ref a ∧ fits (pm_Y 4 k) (.ref a) = true)) ∧ pm_ft 4 k ≤ 2 := by
  intro k hk
  have hk : k < 3 := hk
  match k, hk with
  | 0, _ => exact ⟨fun h => by first | rfl | exact absurd h (by decide), fun h => by first | rfl | exact absurd h (by decide), fun h => by first | exact ⟨rfl, fun a => ⟨rfl, rfl⟩⟩ | exact absurd h (by decide), by decide⟩
  | 1, _ => exact ⟨fun h => by first | rfl | exact absurd h (by decide), fun h => by first | rfl | exact absurd h (by decide), fun h => by first | exact ⟨rfl, fun a => ⟨rfl, rfl⟩⟩ | exact absurd h (by decide), by decide⟩
  | 2, _ => exact ⟨fun h => by first | rfl | exact absurd h (by decide), fun h => by first | rfl | exact absurd h (by decide), fun h => by first | exact ⟨rfl, fun a => ⟨rfl, rfl⟩⟩ | exact absurd h (by decide), by decide⟩
  | k + 3, h => exact absurd h (by omega)
theorem pm_in5 : ∀ w ∈ u_ws (pm_C 5) (pm_T 5) (pm_nf 5), w ∈ lw_tbl.filter goodWord := by decide +kernel
theorem pm_ty5 : ∀ k, k < pm_nf 5 → parseFieldDescriptor (pm_T 5 k).2.2.1 = some (pm_Y 5 k) := by decide +kernel
theorem pm_nm5 : ∀ a, a < pm_nf 5 → ∀ b, b < pm_nf 5 → a ≠ b → (pm_T 5 a).2.1 ≠ (pm_T 5 b).2.1 := by decide +kernel
theorem pm_fy5 : ∀ k, k < pm_nf 5 → (pm_ft 5 k = 0 → pm_Y 5 k = .int) ∧ (pm_ft 5 k = 1 → pm_Y 5 k = .boolean) ∧ (pm_ft 5 k = 2 → (defaultValue (pm_Y 5 k) = .null ∧ ∀ a : Nat, narrow (pm_Y 5 k) (.ref a) = .ref a ∧ fits (pm_Y 5 k) (.ref a) = true)) ∧ pm_ft 5 k ≤ 2 := by
  intro k hk
  have hk : k < 5 := hk
  match k, hk with
  | 0, _ => exact ⟨fun h => by first | rfl | exact absurd h (by decide), fun h => by first | rfl | exact absurd h (by decide), fun h => by first | exact ⟨rfl, fun a => ⟨rfl, rfl⟩⟩ | exact absurd h (by decide), by decide⟩
  | 1, _ => exact ⟨fun h => by first | rfl | exact absurd h (by decide), fun h => by first | rfl | exact absurd h (by decide), fun h => by first | exact ⟨rfl, fun a => ⟨rfl, rfl⟩⟩ | exact absurd h (by decide), by decide⟩
  | 2, _ => exact ⟨fun h => by first | rfl | exact absurd h (by decide), fun h => by first | rfl | exact absurd h (by decide), fun h => by first | exact ⟨rfl, fun a => ⟨rfl, rfl⟩⟩ | exact absurd h (by decide), by decide⟩
  | 3, _ => exact ⟨fun h => by first | rfl | exact absurd h (by decide), fun h => by first | rfl | exact absurd h (by decide), fun h => by first | exact ⟨rfl, fun a => ⟨rfl, rfl⟩⟩ | exact absurd h (by decide), by decide⟩
  | 4, _ => exact ⟨fun h => by first | rfl | exact absurd h (by decide), fun h => by first | rfl | exact absurd h (by decide), fun h => by first | exact ⟨rfl, fun a => ⟨rfl, rfl⟩⟩ | exact absurd h (by decide), by decide⟩
  | k + 5, h => exact absurd h (by omega)
theorem pm_in6 : ∀ w ∈ u_ws (pm_C 6) (pm_T 6) (pm_nf 6), w ∈ lw_tbl.filter goodWord := by decide +kernel
theorem pm_ty6 : ∀ k, k < pm_nf 6 → parseFieldDescriptor (pm_T 6 k).2.2.1 = some (pm_Y 6 k) := by decide +kernel
theorem pm_nm6 : ∀ a, a < pm_nf 6 → ∀ b, b < pm_nf 6 → a ≠ b → (pm_T 6 a).2.1 ≠ (pm_T 6 b).2.1 := by decide +kernel
theorem pm_fy6 : ∀ k, k < pm_nf 6 → (pm_ft 6 k = 0 → pm_Y 6 k = .int) ∧ (pm_ft 6 k = 1 → pm_Y 6 k = .boolean) ∧ (pm_ft 6 k = 2 → (defaultValue (pm_Y 6 k) = .null ∧ ∀ a : Nat, narrow (pm_Y 6 k) (.ref a) = .ref a ∧ fits (pm_Y 6 k) (.ref a) = true)) ∧ pm_ft 6 k ≤ 2 := by
  intro k hk
  have hk : k < 5 := hk
  match k, hk with
  | 0, _ => exact ⟨fun h => by first | rfl | exact absurd h (by decide), fun h => by first | rfl | exact absurd h (by decide), fun h => by first | exact ⟨rfl, fun a => ⟨rfl, rfl⟩⟩ | exact absurd h (by decide), by decide⟩
  | 1, _ => exact ⟨fun h => by first | rfl | exact absurd h (by decide), fun h => by first | rfl | exact absurd h (by decide), fun h => by first | exact ⟨rfl, fun a => ⟨rfl, rfl⟩⟩ | exact absurd h (by decide), by decide⟩
  | 2, _ => exact ⟨fun h => by first | rfl | exact absurd h (by decide), fun h => by first | rfl | exact absurd h (by decide), fun h => by first | exact ⟨rfl, fun a => ⟨rfl, rfl⟩⟩ | exact absurd h (by decide), by decide⟩
  | 3, _ => exact ⟨fun h => by first | rfl | exact absurd h (by decide), fun h => by first | rfl | exact absurd h (by decide), fun h => by first | exact ⟨rfl, fun a => ⟨rfl, rfl⟩⟩ | exact absurd h (by decide), by decide⟩
  | 4, _ => exact ⟨fun h => by first | rfl | exact absurd h (by decide), fun h => by first | rfl | exact absurd h (by decide), fun h => by first | exact ⟨rfl, fun a => ⟨rfl, rfl⟩⟩ | exact absurd h (by decide), by decide⟩
  | k + 5, h => exact absurd h (by omega)
theorem pm_in7 : ∀ w ∈ u_ws (pm_C 7) (pm_T 7) (pm_nf 7), w ∈ lw_tbl.filter goodWord := by decide +kernel
theorem pm_ty7 : ∀ k, k < pm_nf 7 → parseFieldDescriptor (pm_T 7 k).2.2.1 = some (pm_Y 7 k) := by decide +kernel
theorem pm_nm7 : ∀ a, a < pm_nf 7 → ∀ b, b < pm_nf 7 → a ≠ b → (pm_T 7 a).2.1 ≠ (pm_T 7 b).2.1 := by decide +kernel
theorem pm_fy7 : ∀ k, k < pm_nf 7 → (pm_ft 7 k = 0 → pm_Y 7 k = .int) ∧ (pm_ft 7 k = 1 → pm_Y 7 k = .boolean) ∧ (pm_ft 7 k = 2 → (defaultValue (pm_Y 7 k) = .null ∧ ∀ a : Nat, narrow (pm_Y 7 k) (.ref a) = .ref a ∧ fits (pm_Y 7 k) (.ref a) = true)) ∧ pm_ft 7 k ≤ 2 := by
  intro k hk
  have hk : k < 59 := hk
  match k, hk with
  | 0, _ => exact ⟨fun h => by first | rfl | exact absurd h (by decide), fun h => by first | rfl | exact absurd h (by decide), fun h => by first | exact ⟨rfl, fun a => ⟨rfl, rfl⟩⟩ | exact absurd h (by decide), by decide⟩
  | 1, _ => exact ⟨fun h => by first | rfl | exact absurd h (by decide), fun h => by first | rfl | exact absurd h (by decide), fun h => by first | exact ⟨rfl, fun a => ⟨rfl, rfl⟩⟩ | exact absurd h (by decide), by decide⟩
  | 2, _ => exact ⟨fun h => by first | rfl | exact absurd h (by decide), fun h => by first | rfl | exact absurd h (by decide), fun h => by first | exact ⟨rfl, fun a => ⟨rfl, rfl⟩⟩ | exact absurd h (by decide), by decide⟩
  | 3, _ => exact ⟨fun h => by first | rfl | exact absurd h (by decide), fun h => by first | rfl | exact absurd h (by decide), fun h => by first | exact ⟨rfl, fun a => ⟨rfl, rfl⟩⟩ | exact absurd h (by decide), by decide⟩
  | 4, _ => exact ⟨fun h => by first | rfl | exact absurd h (by decide), fun h => by first | rfl | exact absurd h (by decide), fun h => by first | exact ⟨rfl, fun a => ⟨rfl, rfl⟩⟩ | exact absurd h (by decide), by decide⟩
  | 5, _ => exact ⟨fun h => by first | rfl | exact absurd h (by decide), fun h => by first | rfl | exact absurd h (by decide), fun h => by first | exact ⟨rfl, fun a => ⟨rfl, rfl⟩⟩ | exact absurd h (by decide), by decide⟩
  | 6, _ => exact ⟨fun h => by first | rfl | exact absurd h (by decide), fun h => by first | rfl | exact absurd h (by decide), fun h => by first | exact ⟨rfl, fun a => ⟨rfl, rfl⟩⟩ | exact absurd h (by decide), by decide⟩
  | 7, _ => exact ⟨fun h => by first | rfl | exact absurd h (by decide), fun h => by first | rfl | exact absurd h (by decide), fun h => by first | exact ⟨rfl, fun a => ⟨rfl, rfl⟩⟩ | exact absurd h (by decide), by decide⟩
  | 8, _ => exact ⟨fun h => by first | rfl | exact absurd h (by decide), fun h => by first | rfl | exact absurd h (by decide), fun h => by first | exact ⟨rfl, fun a => ⟨rfl, rfl⟩⟩ | exact absurd h (by decide), by decide⟩
  | 9, _ => exact ⟨fun h => by first | rfl | exact absurd h (by decide), fun h => by first | rfl | exact absurd h (by decide), fun h => by first | exact ⟨rfl, fun a => ⟨rfl, rfl⟩⟩ | exact absurd h (by decide), by decide⟩
  | 10, _ => exact ⟨fun h => by first | rfl | exact absurd h (by decide), fun h => by first | rfl | exact absurd h (by decide), fun h => by first | exact ⟨rfl, fun a => ⟨rfl, rfl⟩⟩ | exact absurd h (by decide), by decide⟩
  | 11, _ => exact ⟨fun h => by first | rfl | exact absurd h (by decide), fun h => by first | rfl | exact absurd h (by decide), fun h => by first | exact ⟨rfl, fun a => ⟨rfl, rfl⟩⟩ | exact absurd h (by decide), by decide⟩
  | 12, _ => exact ⟨fun h => by first | rfl | exact absurd h (by decide), fun h => by first | rfl | exact absurd h (by decide), fun h => by first | exact ⟨rfl, fun a => ⟨rfl, rfl⟩⟩ | exact absurd h (by decide), by decide⟩
  | 13, _ => exact ⟨fun h => by first | rfl | exact absurd h (by decide), fun h => by first | rfl | exact absurd h (by decide), fun h => by first | exact ⟨rfl, fun a => ⟨rfl, rfl⟩⟩ | exact absurd h (by decide), by decide⟩
  | 14, _ => exact ⟨fun h => by first | rfl | exact absurd h (by decide), fun h => by first | rfl | exact absurd h (by decide), fun h => by first | exact ⟨rfl, fun a => ⟨rfl, rfl⟩⟩ | exact absurd h (by decide), by decide⟩
  | 15, _ => exact ⟨fun h => by first | rfl | exact absurd h (by decide), fun h => by first | rfl | exact absurd h (by decide), fun h => by first | exact ⟨rfl, fun a => ⟨rfl, rfl⟩⟩ | exact absurd h (by decide), by decide⟩
  | 16, _ => exact ⟨fun h => by first | rfl | exact absurd h (by decide), fun h => by first | rfl | exact absurd h (by decide), fun h => by first | exact ⟨rfl, fun a => ⟨rfl, rfl⟩⟩ | exact absurd h (by decide), by decide⟩
  | 17, _ => exact ⟨fun h => by first | rfl | exact absurd h (by decide), fun h => by first | rfl | exact absurd h (by decide), fun h => by first | exact ⟨rfl, fun a => ⟨rfl, rfl⟩⟩ | exact absurd h (by decide), by decide⟩
  | 18, _ => exact ⟨fun h => by first | rfl | exact absurd h (by decide), fun h => by first | rfl | exact absurd h (by decide), fun h => by first | exact ⟨rfl, fun a => ⟨rfl, rfl⟩⟩ | exact absurd h (by decide), by decide⟩
  | 19, _ => exact ⟨fun h => by first | rfl | exact absurd h (by decide), fun h => by first | rfl | exact absurd h (by decide), fun h => by first | exact ⟨rfl, fun a => ⟨rfl, rfl⟩⟩ | exact absurd h (by decide), by decide⟩
  | 20, _ => exact ⟨fun h => by first | rfl | exact absurd h (by decide), fun h => by first | rfl | exact absurd h (by decide), fun h => by first | exact ⟨rfl, fun a => ⟨rfl, rfl⟩⟩ | exact absurd h (by decide), by decide⟩
  | 21, _ => exact ⟨fun h => by first | rfl | exact absurd h (by decide), fun h => by first | rfl | exact absurd h (by decide), fun h => by first | exact ⟨rfl, fun a => ⟨rfl, rfl⟩⟩ | exact absurd h (by decide), by decide⟩
  | 22, _ => exact ⟨fun h => by first | rfl | exact absurd h (by decide), fun h => by first | rfl | exact absurd h (by decide), fun h => by first | exact ⟨rfl, fun a => ⟨rfl, rfl⟩⟩ | exact absurd h (by decide), by decide⟩
  | 23, _ => exact ⟨fun h => by first | rfl | exact absurd h (by decide), fun h => by first | rfl | exact absurd h (by decide), fun h => by first | exact ⟨rfl, fun a => ⟨rfl, rfl⟩⟩ | exact absurd h (by decide), by decide⟩
  | 24, _ => exact ⟨fun h => by first | rfl | exact absurd h (by decide), fun h => by first | rfl | exact absurd h (by decide), fun h => by first | exact ⟨rfl, fun a => ⟨rfl, rfl⟩⟩ | exact absurd h (by decide), by decide⟩
  | 25, _ => exact ⟨fun h => by first | rfl | exact absurd h (by decide), fun h => by first | rfl | exact absurd h (by decide), fun h => by first | exact ⟨rfl, fun a => ⟨rfl, rfl⟩⟩ | exact absurd h (by decide), by decide⟩
  | 26, _ => exact ⟨fun h => by first | rfl | exact absurd h (by decide), fun h => by first | rfl | exact absurd h (by decide), fun h => by first | exact ⟨rfl, fun a => ⟨rfl, rfl⟩⟩ | exact absurd h (by decide), by decide⟩
  | 27, _ => exact ⟨fun h => by first | rfl | exact absurd h (by decide), fun h => by first | rfl | exact absurd h (by decide), fun h => by first | exact ⟨rfl, fun a => ⟨rfl, rfl⟩⟩ | exact absurd h (by decide), by decide⟩
  | 28, _ => exact ⟨fun h => by first | rfl | exact absurd h (by decide), fun h => by first | rfl | exact absurd h (by decide), fun h => by first | exact ⟨rfl, fun a => ⟨rfl, rfl⟩⟩ | exact absurd h (by decide), by decide⟩
  | 29, _ => exact ⟨fun h => by first | rfl | exact absurd h (by decide), fun h => by first | rfl | exact absurd h (by decide), fun h => by first | exact ⟨rfl, fun a => ⟨rfl, rfl⟩⟩ | exact absurd h (by decide), by decide⟩
  | 30, _ => exact ⟨fun h => by first | rfl | exact absurd h (by decide), fun h => by first | rfl | exact absurd h (by decide), fun h => by first | exact ⟨rfl, fun a => ⟨rfl, rfl⟩⟩ | exact absurd h (by decide), by decide⟩
  | 31, _ => exact ⟨fun h => by first | rfl | exact absurd h (by decide), fun h => by first | rfl | exact absurd h (by decide), fun h => by first | exact ⟨rfl, fun a => ⟨rfl, rfl⟩⟩ | exact absurd h (by decide), by decide⟩
  | 32, _ => exact ⟨fun h => by first | rfl | exact absurd h (by decide), fun h => by first | rfl | exact absurd h (by decide), fun h => by first | exact ⟨rfl, fun a => ⟨rfl, rfl⟩⟩ | exact absurd h (by decide), by decide⟩
  | 33, _ => exact ⟨fun h => by first | rfl | exact absurd h (by decide), fun h => by first | rfl | exact absurd h (by decide), fun h => by first | exact ⟨rfl, fun a => ⟨rfl, rfl⟩⟩ | exact absurd h (by decide), by decide⟩
  | 34, _ => exact ⟨fun h => by first | rfl | exact absurd h (by decide), fun h => by first | rfl | exact absurd h (by decide), fun h => by first | exact ⟨rfl, fun a => ⟨rfl, rfl⟩⟩ | exact absurd h (by decide), by decide⟩
  | 35, _ => exact ⟨fun h => by first | rfl | exact absurd h (by decide), fun h => by first | rfl | exact absurd h (by decide), fun h => by first | exact ⟨rfl, fun a => ⟨rfl, rfl⟩⟩ | exact absurd h (by decide), by decide⟩
  | 36, _ => exact ⟨fun h => by first | rfl | exact absurd h (by decide), fun h => by first | rfl | exact absurd h (by decide), fun h => by first | exact ⟨rfl, fun a => ⟨rfl, rfl⟩⟩ | exact absurd h (by decide), by decide⟩
  | 37, _ => exact ⟨fun h => by first | rfl | exact absurd h (by decide), fun h => by first | rfl | exact absurd h (by decide), fun h => by first | exact ⟨rfl, fun a => ⟨rfl, rfl⟩⟩ | exact absurd h (by decide), by decide⟩
  | 38, _ => exact ⟨fun h => by first | rfl | exact absurd h (by decide), fun h => by first | rfl | exact absurd h (by decide), fun h => by first | exact ⟨rfl, fun a => ⟨rfl, rfl⟩⟩ | exact absurd h (by decide), by decide⟩
  | 39, _ => exact ⟨fun h => by first | rfl | exact absurd h (by decide), fun h => by first | rfl | exact absurd h (by decide), fun h => by first | exact ⟨rfl, fun a => ⟨rfl, rfl⟩⟩ | exact absurd h (by decide), by decide⟩
  | 40, _ => exact ⟨fun h => by first | rfl | exact absurd h (by decide), fun h => by first | rfl | exact absurd h (by decide), fun h => by first | exact ⟨rfl, fun a => ⟨rfl, rfl⟩⟩ | exact absurd h (by decide), by decide⟩
  | 41, _ => exact ⟨fun h => by first | rfl | exact absurd h (by decide), fun h => by first | rfl | exact absurd h (by decide), fun h => by first | exact ⟨rfl, fun a => ⟨rfl, rfl⟩⟩ | exact absurd h (by decide), by decide⟩
  | 42, _ => exact ⟨fun h => by first | rfl | exact absurd h (by decide), fun h => by first | rfl | exact absurd h (by decide), fun h => by first | exact ⟨rfl, fun a => ⟨rfl, rfl⟩⟩ | exact absurd h (by decide), by decide⟩
  | 43, _ => exact ⟨fun h => by first | rfl | exact absurd h (by decide), fun h => by first | rfl | exact absurd h (by decide), fun h => by first | exact ⟨rfl, fun a => ⟨rfl, rfl⟩⟩ | exact absurd h (by decide), by decide⟩
  | 44, _ => exact ⟨fun h => by first | rfl | exact absurd h (by decide), fun h => by first | rfl | exact absurd h (by decide), fun h => by first | exact ⟨rfl, fun a => ⟨rfl, rfl⟩⟩ | exact absurd h (by decide), by decide⟩
  | 45, _ => exact ⟨fun h => by first | rfl | exact absurd h (by decide), fun h => by first | rfl | exact absurd h (by decide), fun h => by first | exact ⟨rfl, fun a => ⟨rfl, rfl⟩⟩ | exact absurd h (by decide), by decide⟩
  | 46, _ => exact ⟨fun h => by first | rfl | exact absurd h (by decide), fun h => by first | rfl | exact absurd h (by decide), fun h => by first | exact ⟨rfl, fun a => ⟨rfl, rfl⟩⟩ | exact absurd h (by decide), by decide⟩
  | 47, _ => exact ⟨fun h => by first | rfl | exact absurd h (by decide), fun h => by first | rfl | exact absurd h (by decide), fun h => by first | exact ⟨rfl, fun a => ⟨rfl, rfl⟩⟩ | exact absurd h (by decide), by decide⟩
  | 48, _ => exact ⟨fun h => by first | rfl | exact absurd h (by decide), fun h => by first | rfl | exact absurd h (by decide), fun h => by first | exact ⟨rfl, fun a => ⟨rfl, rfl⟩⟩ | exact absurd h (by decide), by decide⟩
  | 49, _ => exact ⟨fun h => by first | rfl | exact absurd h (by decide), fun h => by first | rfl | exact absurd h (by decide), fun h => by first | exact ⟨rfl, fun a => ⟨rfl, rfl⟩⟩ | exact absurd h (by decide), by decide⟩
  | 50, _ => exact ⟨fun h => by first | rfl | exact absurd h (by decide), fun h => by first | rfl | exact absurd h (by decide), fun h => by first | exact ⟨rfl, fun a => ⟨rfl, rfl⟩⟩ | exact absurd h (by decide), by decide⟩
  | 51, _ => exact ⟨fun h => by first | rfl | exact absurd h (by decide), fun h => by first | rfl | exact absurd h (by decide), fun h => by first | exact ⟨rfl, fun a => ⟨rfl, rfl⟩⟩ | exact absurd h (by decide), by decide⟩
  | 52, _ => exact ⟨fun h => by first | rfl | exact absurd h (by decide), fun h => by first | rfl | exact absurd h (by decide), fun h => by first | exact ⟨rfl, fun a => ⟨rfl, rfl⟩⟩ | exact absurd h (by decide), by decide⟩
  | 53, _ => exact ⟨fun h => by first | rfl | exact absurd h (by decide), fun h => by first | rfl | exact absurd h (by decide), fun h => by first | exact ⟨rfl, fun a => ⟨rfl, rfl⟩⟩ | exact absurd h (by decide), by decide⟩
  | 54, _ => exact ⟨fun h => by first | rfl | exact absurd h (by decide), fun h => by first | rfl | exact absurd h (by decide), fun h => by first | exact ⟨rfl, fun a => ⟨rfl, rfl⟩⟩ | exact absurd h (by decide), by decide⟩
  | 55, _ => exact ⟨fun h => by first | rfl | exact absurd h (by decide), fun h => by first | rfl | exact absurd h (by decide), fun h => by first | exact ⟨rfl, fun a => ⟨rfl, rfl⟩⟩ | exact absurd h (by decide), by decide⟩
  | 56, _ => exact ⟨fun h => by first | rfl | exact absurd h (by decide), fun h => by first | rfl | exact absurd h (by decide), fun h => by first | exact ⟨rfl, fun a => ⟨rfl, rfl⟩⟩ | exact absurd h (by decide), by decide⟩
  | 57, _ => exact ⟨fun h => by first | rfl | exact absurd h (by decide), fun h => by first | rfl | exact absurd h (by decide), fun h => by first | exact ⟨rfl, fun a => ⟨rfl, rfl⟩⟩ | exact absurd h (by decide), by decide⟩
  | 58, _ => exact ⟨fun h => by first | rfl | exact absurd h (by decide), fun h => by first | rfl | exact absurd h (by decide), fun h => by first | exact ⟨rfl, fun a => ⟨rfl, rfl⟩⟩ | exact absurd h (by decide), by decide⟩
  | k + 59, h => exact absurd h (by omega)
theorem pm_in : ∀ ci, ci < 8 → ∀ w ∈ u_ws (pm_C ci) (pm_T ci) (pm_nf ci), w ∈ lw_tbl.filter goodWord := by
  intro ci h
  match ci, h with
  | 0, _ => exact pm_in0
  | 1, _ => exact pm_in1
  | 2, _ => exact pm_in2
  | 3, _ => exact pm_in3
  | 4, _ => exact pm_in4
  | 5, _ => exact pm_in5
  | 6, _ => exact pm_in6
  | 7, _ => exact pm_in7
  | n + 8, h => exact absurd h (by omega)
theorem pm_ty : ∀ ci, ci < 8 → ∀ k, k < pm_nf ci → parseFieldDescriptor (pm_T ci k).2.2.1 = some (pm_Y ci k) := by
  intro ci h
  match ci, h with
  | 0, _ => exact pm_ty0
  | 1, _ => exact pm_ty1
  | 2, _ => exact pm_ty2
  | 3, _ => exact pm_ty3
  | 4, _ => exact pm_ty4
  | 5, _ => exact pm_ty5
  | 6, _ => exact pm_ty6
  | 7, _ => exact pm_ty7
  | n + 8, h => exact absurd h (by omega)
theorem pm_nm : ∀ ci, ci < 8 → ∀ a, a < pm_nf ci → ∀ b, b < pm_nf ci → a ≠ b → (pm_T ci a).2.1 ≠ (pm_T ci b).2.1 := by
  intro ci h
  match ci, h with
  | 0, _ => exact pm_nm0
  | 1, _ => exact pm_nm1
  | 2, _ => exact pm_nm2
  | 3, _ => exact pm_nm3
  | 4, _ => exact pm_nm4
  | 5, _ => exact pm_nm5
  | 6, _ => exact pm_nm6
  | 7, _ => exact pm_nm7
  | n + 8, h => exact absurd h (by omega)
theorem pm_fy : ∀ ci, ci < 8 → ∀ k, k < pm_nf ci → (pm_ft ci k = 0 → pm_Y ci k = .int) ∧ (pm_ft ci k = 1 → pm_Y ci k = .boolean) ∧ (pm_ft ci k = 2 → (defaultValue (pm_Y ci k) = .null ∧ ∀ a : Nat, narrow (pm_Y ci k) (.ref a) = .ref a ∧ fits (pm_Y ci k) (.ref a) = true)) ∧ pm_ft ci k ≤ 2 := by
  intro ci h
  match ci, h with
  | 0, _ => exact pm_fy0
  | 1, _ => exact pm_fy1
  | 2, _ => exact pm_fy2
  | 3, _ => exact pm_fy3
  | 4, _ => exact pm_fy4
  | 5, _ => exact pm_fy5
  | 6, _ => exact pm_fy6
  | 7, _ => exact pm_fy7
  | n + 8, h => exact absurd h (by omega)
def pm_ys : List (MethodName × ByteArray × Option FieldType) := [(⟨"IceBears", "<init>", "()V"⟩, prog_1_method_1_code, none), (⟨"IceBears", "lay", "(IIII)I"⟩, prog_1_method_2_code, (some .int)), (⟨"IceBears", "of", "(II)I"⟩, prog_1_method_3_code, (some .int)), (⟨"IceBears", "children", "(II)I"⟩, prog_1_method_4_code, (some .int)), (⟨"IceBears", "fall", "()I"⟩, prog_1_method_5_code, (some .int)), (⟨"IceBears", "feed", "(II)I"⟩, prog_1_method_6_code, (some .int)), (⟨"IceBears", "winter", "()I"⟩, prog_1_method_7_code, (some .int)), (⟨"IceBears", "told", "(II)I"⟩, prog_1_method_8_code, (some .int)), (⟨"IceBears", "warm", "(IZ)I"⟩, prog_1_method_9_code, (some .int)), (⟨"IceBears", "place", "(III)I"⟩, prog_1_method_10_code, (some .int)), (⟨"IceBears", "cold", "(I)I"⟩, prog_1_method_11_code, (some .int)), (⟨"IceBears", "go", "(I)I"⟩, prog_1_method_12_code, (some .int)), (⟨"IceBears", "when", "(I)I"⟩, prog_1_method_13_code, (some .int)), (⟨"IceBears", "thin", "(II)I"⟩, prog_1_method_14_code, (some .int)), (⟨"IceBears", "reach", "(I)I"⟩, prog_1_method_15_code, (some .int)), (⟨"IceBears", "sweep", "(II)I"⟩, prog_1_method_16_code, (some .int)), (⟨"IceBears", "lamp", "(I)I"⟩, prog_1_method_17_code, (some .int)), (⟨"IceBears", "board", "(III)I"⟩, prog_1_method_18_code, (some .int)), (⟨"IceBears", "rope", "()I"⟩, prog_1_method_19_code, (some .int)), (⟨"IceBears", "hole", "(III)I"⟩, prog_1_method_20_code, (some .int)), (⟨"IceBears", "off", "(I)I"⟩, prog_1_method_21_code, (some .int)), (⟨"IceBears", "likely", "()I"⟩, prog_1_method_22_code, (some .int)), (⟨"IceBears", "blows", "(I)I"⟩, prog_1_method_23_code, (some .int)), (⟨"IceBears", "odds", "(II)I"⟩, prog_1_method_24_code, (some .int)), (⟨"IceBears", "sure", "(II)J"⟩, prog_1_method_25_code, (some .long)), (⟨"IceBears", "judge", "(II)I"⟩, prog_1_method_26_code, (some .int)), (⟨"IceBears", "image", "()I"⟩, prog_1_method_27_code, (some .int)), (⟨"IceBears", "undo", "()I"⟩, prog_1_method_28_code, (some .int)), (⟨"IceBears", "act", "(III)I"⟩, prog_1_method_29_code, (some .int)), (⟨"IceBears", "trace", "(I)I"⟩, prog_1_method_30_code, (some .int)), (⟨"IceBears", "taken", "(II)I"⟩, prog_1_method_31_code, (some .int)), (⟨"IceBears", "count", "(I)I"⟩, prog_1_method_32_code, (some .int)), (⟨"IceBears", "tape", "(III)I"⟩, prog_1_method_33_code, (some .int)), (⟨"IceBears", "item", "(IIJ)I"⟩, prog_1_method_34_code, (some .int)), (⟨"IceBears", "read", "(II)J"⟩, prog_1_method_35_code, (some .long)), (⟨"IceBears", "shift", "(IIIII)I"⟩, prog_1_method_36_code, (some .int)), (⟨"IceBears", "isWithin", "(III)Z"⟩, prog_1_method_37_code, (some .boolean)), (⟨"IceBears", "isCell", "(I)Z"⟩, prog_1_method_38_code, (some .boolean)), (⟨"IceBears", "isTape", "(I)Z"⟩, prog_1_method_39_code, (some .boolean)), (⟨"IceBears", "isKind", "(I)Z"⟩, prog_1_method_40_code, (some .boolean)), (⟨"IceBears", "isUnder", "(II)Z"⟩, prog_1_method_41_code, (some .boolean)), (⟨"IceBears", "commonDivisor", "(II)I"⟩, prog_1_method_42_code, (some .int)), (⟨"IceBears", "nearOf", "(I)I"⟩, prog_1_method_43_code, (some .int)), (⟨"IceBears", "loadOf", "([II)I"⟩, prog_1_method_44_code, (some .int)), (⟨"IceBears", "fillLoads", "([I)V"⟩, prog_1_method_45_code, none), (⟨"IceBears", "bears", "(II)Z"⟩, prog_1_method_46_code, (some .boolean)), (⟨"IceBears", "everyCellBears", "(LIceBears$Ice;)Z"⟩, prog_1_method_47_code, (some .boolean)), (⟨"IceBears", "fallingOf", "([I)I"⟩, prog_1_method_48_code, (some .int)), (⟨"IceBears", "bearingOneMore", "()I"⟩, prog_1_method_49_code, (some .int)), (⟨"IceBears", "childrenInAll", "()I"⟩, prog_1_method_50_code, (some .int)), (⟨"IceBears", "holding", "()LIceBears$Winter;"⟩, prog_1_method_51_code, (some (.object "IceBears$Winter"))), (⟨"IceBears", "isWarm", "(I)Z"⟩, prog_1_method_52_code, (some .boolean)), (⟨"IceBears", "isWarmGuessed", "(II)Z"⟩, prog_1_method_53_code, (some .boolean)), (⟨"IceBears", "passHour", "(LIceBears$Ice;LIceBears$Winter;IZI)V"⟩, prog_1_method_54_code, none), (⟨"IceBears", "passHours", "(LIceBears$Ice;II)V"⟩, prog_1_method_55_code, none), (⟨"IceBears", "thickWithLampAt", "(I)I"⟩, prog_1_method_56_code, (some .int)), (⟨"IceBears", "weightOf", "(I)I"⟩, prog_1_method_57_code, (some .int)), (⟨"IceBears", "everyCellBearsBehind", "(II)Z"⟩, prog_1_method_58_code, (some .boolean)), (⟨"IceBears", "offOf", "(LIceBears$Winter;)I"⟩, prog_1_method_59_code, (some .int)), (⟨"IceBears", "offBehind", "(I)I"⟩, prog_1_method_60_code, (some .int)), (⟨"IceBears$Pond", "<init>", "()V"⟩, prog_4_method_1_code, none), (⟨"IceBears$Pond", "copyFrom", "(LIceBears$Pond;)V"⟩, prog_4_method_2_code, none), (⟨"IceBears$Pond", "coldOf", "(III)I"⟩, prog_4_method_3_code, (some .int)), (⟨"IceBears$Ice", "<init>", "()V"⟩, prog_3_method_1_code, none), (⟨"IceBears$Ice", "copyFrom", "(LIceBears$Ice;)V"⟩, prog_3_method_2_code, none), (⟨"IceBears$Ice", "vanish", "()V"⟩, prog_3_method_3_code, none), (⟨"IceBears$Ice", "thick", "(I)I"⟩, prog_3_method_4_code, (some .int)), (⟨"IceBears$Ice", "pass", "(IIIII)V"⟩, prog_3_method_5_code, none), (⟨"IceBears$Ice", "whiten", "(I)V"⟩, prog_3_method_6_code, none), (⟨"IceBears$Ice", "grow", "(II)V"⟩, prog_3_method_7_code, none), (⟨"IceBears$Ice", "melt", "(II)V"⟩, prog_3_method_8_code, none), (⟨"IceBears$Ice", "vanishAt", "(I)V"⟩, prog_3_method_9_code, none), (⟨"IceBears$Winter", "<init>", "()V"⟩, prog_7_method_1_code, none), (⟨"IceBears$Winter", "frost", "(IZ)I"⟩, prog_7_method_2_code, (some .int)), (⟨"IceBears$Winter", "falls", "(IZ)I"⟩, prog_7_method_3_code, (some .int)), (⟨"IceBears$Winter", "bearing", "()I"⟩, prog_7_method_4_code, (some .int)), (⟨"IceBears$Winter", "begin", "()V"⟩, prog_7_method_5_code, none), (⟨"IceBears$Winter", "add", "(I)V"⟩, prog_7_method_6_code, none), (⟨"IceBears$Winter", "endClause", "(II)V"⟩, prog_7_method_7_code, none), (⟨"IceBears$Winter", "sum", "(IIZ)I"⟩, prog_7_method_8_code, (some .int)), (⟨"IceBears$Winter", "holds", "(III)Z"⟩, prog_7_method_9_code, (some .boolean)), (⟨"IceBears$Winter", "isSo", "(III)Z"⟩, prog_7_method_10_code, (some .boolean)), (⟨"IceBears$Tape", "<init>", "()V"⟩, prog_6_method_1_code, none), (⟨"IceBears$Tape", "become", "(II)V"⟩, prog_6_method_2_code, none), (⟨"IceBears$Tape", "fitting", "(J)J"⟩, prog_6_method_3_code, (some .long)), (⟨"IceBears$Tape", "hasPart", "(II)Z"⟩, prog_6_method_4_code, (some .boolean)), (⟨"IceBears$Acts", "<init>", "()V"⟩, prog_2_method_1_code, none), (⟨"IceBears$Acts", "forget", "()V"⟩, prog_2_method_2_code, none), (⟨"IceBears$Acts", "start", "(IIIII)I"⟩, prog_2_method_3_code, (some .int)), (⟨"IceBears$Acts", "perform", "(IIII)I"⟩, prog_2_method_4_code, (some .int)), (⟨"IceBears$Acts", "note", "(I)V"⟩, prog_2_method_5_code, none), (⟨"IceBears$Acts", "above", "(I)I"⟩, prog_2_method_6_code, (some .int)), (⟨"IceBears$Acts", "bodyOf", "(II)I"⟩, prog_2_method_7_code, (some .int)), (⟨"IceBears$Reader", "<init>", "([BILIceBears$Winter;)V"⟩, prog_5_method_1_code, none), (⟨"IceBears$Reader", "takeWinter", "()Z"⟩, prog_5_method_2_code, (some .boolean)), (⟨"IceBears$Reader", "takeClause", "()Z"⟩, prog_5_method_3_code, (some .boolean)), (⟨"IceBears$Reader", "sortHere", "()I"⟩, prog_5_method_4_code, (some .int)), (⟨"IceBears$Reader", "wordOf", "(I)Ljava/lang/String;"⟩, prog_5_method_5_code, (some (.object "java/lang/String"))), (⟨"IceBears$Reader", "takeAny", "(I)Z"⟩, prog_5_method_6_code, (some .boolean)), (⟨"IceBears$Reader", "takeAll", "(I)Z"⟩, prog_5_method_7_code, (some .boolean)), (⟨"IceBears$Reader", "takeOne", "(I)Z"⟩, prog_5_method_8_code, (some .boolean)), (⟨"IceBears$Reader", "takeNumber", "()Z"⟩, prog_5_method_9_code, (some .boolean)), (⟨"IceBears$Reader", "takeWord", "(Ljava/lang/String;)Z"⟩, prog_5_method_10_code, (some .boolean)), (⟨"IceBears$Reader", "takeOneOf", "(Ljava/lang/String;)I"⟩, prog_5_method_11_code, (some .int)), (⟨"IceBears$Reader", "take", "(C)Z"⟩, prog_5_method_12_code, (some .boolean)), (⟨"IceBears$Reader", "isAt", "(C)Z"⟩, prog_5_method_13_code, (some .boolean)), (⟨"IceBearsModel", "<init>", "()V"⟩, prog_9_method_1_code, none), (⟨"IceBearsModel", "in", "(III)Z"⟩, prog_9_method_2_code, (some .boolean)), (⟨"IceBearsModel", "min", "(II)I"⟩, prog_9_method_3_code, (some .int)), (⟨"IceBearsModel", "has", "(II)Z"⟩, prog_9_method_4_code, (some .boolean)), (⟨"IceBearsModel", "isCell", "(I)Z"⟩, prog_9_method_5_code, (some .boolean)), (⟨"IceBearsModel", "areNear", "(II)Z"⟩, prog_9_method_6_code, (some .boolean)), (⟨"IceBearsModel", "thickOf", "(I)I"⟩, prog_9_method_7_code, (some .int)), (⟨"IceBearsModel", "lay", "(IIII)I"⟩, prog_9_method_8_code, (some .int)), (⟨"IceBearsModel", "children", "(II)I"⟩, prog_9_method_9_code, (some .int)), (⟨"IceBearsModel", "place", "(III)I"⟩, prog_9_method_10_code, (some .int)), (⟨"IceBearsModel", "warm", "(IZ)I"⟩, prog_9_method_11_code, (some .int)), (⟨"IceBearsModel", "feed", "(II)I"⟩, prog_9_method_12_code, (some .int)), (⟨"IceBearsModel", "next", "()I"⟩, prog_9_method_13_code, (some .int)), (⟨"IceBearsModel", "takes", "(I)Z"⟩, prog_9_method_14_code, (some .boolean)), (⟨"IceBearsModel", "takesWord", "(II)Z"⟩, prog_9_method_15_code, (some .boolean)), (⟨"IceBearsModel", "isDigit", "()Z"⟩, prog_9_method_16_code, (some .boolean)), (⟨"IceBearsModel", "takesNumber", "()Z"⟩, prog_9_method_17_code, (some .boolean)), (⟨"IceBearsModel", "put", "(I)V"⟩, prog_9_method_18_code, none), (⟨"IceBearsModel", "whole", "()V"⟩, prog_9_method_19_code, none), (⟨"IceBearsModel", "settle", "(I)V"⟩, prog_9_method_20_code, none), (⟨"IceBearsModel", "takesTest", "()Z"⟩, prog_9_method_21_code, (some .boolean)), (⟨"IceBearsModel", "takesE", "(I)Z"⟩, prog_9_method_22_code, (some .boolean)), (⟨"IceBearsModel", "takesHead", "(I)Z"⟩, prog_9_method_23_code, (some .boolean)), (⟨"IceBearsModel", "takesClause", "(I)Z"⟩, prog_9_method_24_code, (some .boolean)), (⟨"IceBearsModel", "goesText", "(I)Z"⟩, prog_9_method_25_code, (some .boolean)), (⟨"IceBearsModel", "winter", "()I"⟩, prog_9_method_26_code, (some .int)), (⟨"IceBearsModel", "holds", "(IIZ)Z"⟩, prog_9_method_27_code, (some .boolean)), (⟨"IceBearsModel", "sumOf", "(IIIZ)I"⟩, prog_9_method_28_code, (some .int)), (⟨"IceBearsModel", "bearsNow", "()I"⟩, prog_9_method_29_code, (some .int)), (⟨"IceBearsModel", "isWarm", "(I)Z"⟩, prog_9_method_30_code, (some .boolean)), (⟨"IceBearsModel", "frostOf", "(IIZ)I"⟩, prog_9_method_31_code, (some .int)), (⟨"IceBearsModel", "told", "(II)I"⟩, prog_9_method_32_code, (some .int)), (⟨"IceBearsModel", "asIs", "()V"⟩, prog_9_method_33_code, none), (⟨"IceBearsModel", "thick", "(I)I"⟩, prog_9_method_34_code, (some .int)), (⟨"IceBearsModel", "coldOf", "(III)I"⟩, prog_9_method_35_code, (some .int)), (⟨"IceBearsModel", "cold", "(I)I"⟩, prog_9_method_36_code, (some .int)), (⟨"IceBearsModel", "freeze", "(II)V"⟩, prog_9_method_37_code, none), (⟨"IceBearsModel", "melt", "(II)V"⟩, prog_9_method_38_code, none), (⟨"IceBearsModel", "goHour", "(IZ)V"⟩, prog_9_method_39_code, none), (⟨"IceBearsModel", "goHours", "(I)V"⟩, prog_9_method_40_code, none), (⟨"IceBearsModel", "layLoads", "(I)V"⟩, prog_9_method_41_code, none), (⟨"IceBearsModel", "bears", "(II)Z"⟩, prog_9_method_42_code, (some .boolean)), (⟨"IceBearsModel", "bearsAll", "()Z"⟩, prog_9_method_43_code, (some .boolean)), (⟨"IceBearsModel", "of", "(II)I"⟩, prog_9_method_44_code, (some .int)), (⟨"IceBearsModel", "falls", "(I)I"⟩, prog_9_method_45_code, (some .int)), (⟨"IceBearsModel", "fall", "()I"⟩, prog_9_method_46_code, (some .int)), (⟨"IceBearsModel", "rope", "()I"⟩, prog_9_method_47_code, (some .int)), (⟨"IceBearsModel", "go", "(I)I"⟩, prog_9_method_48_code, (some .int)), (⟨"IceBearsModel", "bearsEach", "(I)Z"⟩, prog_9_method_49_code, (some .boolean)), (⟨"IceBearsModel", "when", "(I)I"⟩, prog_9_method_50_code, (some .int)), (⟨"IceBearsModel", "thin", "(II)I"⟩, prog_9_method_51_code, (some .int)), (⟨"IceBearsModel", "reach", "(I)I"⟩, prog_9_method_52_code, (some .int)), (⟨"IceBearsModel", "sweep", "(II)I"⟩, prog_9_method_53_code, (some .int)), (⟨"IceBearsModel", "lamp", "(I)I"⟩, prog_9_method_54_code, (some .int)), (⟨"IceBearsModel", "board", "(III)I"⟩, prog_9_method_55_code, (some .int)), (⟨"IceBearsModel", "hole", "(III)I"⟩, prog_9_method_56_code, (some .int)), (⟨"IceBearsModel", "apart", "(II)I"⟩, prog_9_method_57_code, (some .int)), (⟨"IceBearsModel", "offOf", "(I)I"⟩, prog_9_method_58_code, (some .int)), (⟨"IceBearsModel", "off", "(I)I"⟩, prog_9_method_59_code, (some .int)), (⟨"IceBearsModel", "likely", "()I"⟩, prog_9_method_60_code, (some .int)), (⟨"IceBearsModel", "blows", "(I)I"⟩, prog_9_method_61_code, (some .int)), (⟨"IceBearsModel", "odds", "(II)I"⟩, prog_9_method_62_code, (some .int)), (⟨"IceBearsModel", "divisor", "(JJ)J"⟩, prog_9_method_63_code, (some .long)), (⟨"IceBearsModel", "sure", "(II)J"⟩, prog_9_method_64_code, (some .long)), (⟨"IceBearsModel", "judge", "(II)I"⟩, prog_9_method_65_code, (some .int)), (⟨"IceBearsModel", "copy", "([I[I)V"⟩, prog_9_method_66_code, none), (⟨"IceBearsModel", "image", "()I"⟩, prog_9_method_67_code, (some .int)), (⟨"IceBearsModel", "undo", "()I"⟩, prog_9_method_68_code, (some .int)), (⟨"IceBearsModel", "body", "(I)V"⟩, prog_9_method_69_code, none), (⟨"IceBearsModel", "plainFreezes", "(II)I"⟩, prog_9_method_70_code, (some .int)), (⟨"IceBearsModel", "freezesAct", "(II)I"⟩, prog_9_method_71_code, (some .int)), (⟨"IceBearsModel", "plainGoes", "(II)I"⟩, prog_9_method_72_code, (some .int)), (⟨"IceBearsModel", "sprungGoes", "(II)I"⟩, prog_9_method_73_code, (some .int)), (⟨"IceBearsModel", "goesAct", "(II)I"⟩, prog_9_method_74_code, (some .int)), (⟨"IceBearsModel", "plainTells", "(II)I"⟩, prog_9_method_75_code, (some .int)), (⟨"IceBearsModel", "tellsAct", "(II)I"⟩, prog_9_method_76_code, (some .int)), (⟨"IceBearsModel", "act", "(III)I"⟩, prog_9_method_77_code, (some .int)), (⟨"IceBearsModel", "trace", "(I)I"⟩, prog_9_method_78_code, (some .int)), (⟨"IceBearsModel", "taken", "(II)I"⟩, prog_9_method_79_code, (some .int)), (⟨"IceBearsModel", "count", "(I)I"⟩, prog_9_method_80_code, (some .int)), (⟨"IceBearsModel", "isTape", "(I)Z"⟩, prog_9_method_81_code, (some .boolean)), (⟨"IceBearsModel", "tape", "(III)I"⟩, prog_9_method_82_code, (some .int)), (⟨"IceBearsModel", "narrow", "(IJ)J"⟩, prog_9_method_83_code, (some .long)), (⟨"IceBearsModel", "item", "(IIJ)I"⟩, prog_9_method_84_code, (some .int)), (⟨"IceBearsModel", "read", "(II)J"⟩, prog_9_method_85_code, (some .long)), (⟨"IceBearsModel", "shift", "(IIIII)I"⟩, prog_9_method_86_code, (some .int)), (⟨"IceBearsLaw", "law", "([I)Z"⟩, code, (some .boolean)), (⟨"java/lang/String", "length", "()I"⟩, prog_12_method_54_code, (some .int)), (⟨"java/lang/String", "coder", "()B"⟩, prog_12_method_152_code, (some .byte)), (⟨"java/lang/String", "charAt", "(I)C"⟩, prog_12_method_56_code, (some .char)), (⟨"java/lang/String", "isLatin1", "()Z"⟩, prog_12_method_154_code, (some .boolean)), (⟨"java/lang/String", "checkIndex", "(II)V"⟩, prog_12_method_155_code, none), (⟨"java/lang/String", "indexOf", "(I)I"⟩, prog_12_method_79_code, (some .int)), (⟨"java/lang/String", "indexOf", "(II)I"⟩, prog_12_method_80_code, (some .int)), (⟨"java/lang/StringLatin1", "charAt", "([BI)C"⟩, prog_13_method_2_code, (some .char)), (⟨"java/lang/StringLatin1", "canEncode", "(I)Z"⟩, prog_13_method_4_code, (some .boolean)), (⟨"java/lang/StringLatin1", "indexOf", "([BIII)I"⟩, prog_13_method_22_code, (some .int)), (⟨"java/lang/StringLatin1", "indexOfChar", "([BIII)I"⟩, prog_13_method_23_code, (some .int)), (⟨"jdk/internal/util/Preconditions", "checkIndex", "(IILjava/util/function/BiFunction;)I"⟩, prog_16_method_11_code, (some .int))]
def pm_yd : MethodName × ByteArray × Option FieldType := (⟨"", "", ""⟩, code, none)
def pm_y (m : Nat) : MethodName := (pm_ys.getD m pm_yd).1
def pm_b (m : Nat) : ByteArray := (pm_ys.getD m pm_yd).2.1
def pm_rt (m : Nat) : Option FieldType := (pm_ys.getD m pm_yd).2.2
def pm_pls : List (Nat × Nat × Nat × Nat × Nat) := [(104, 103, 0, 85, 2), (303, 301, 302, 85, 1), (317, 315, 316, 85, 1), (345, 343, 344, 85, 1), (349, 347, 348, 85, 1), (357, 355, 356, 85, 1), (361, 359, 360, 85, 1), (560, 558, 559, 85, 1), (587, 585, 586, 85, 1), (591, 589, 590, 85, 1), (598, 596, 597, 85, 1), (606, 604, 605, 85, 1), (640, 638, 639, 85, 1), (659, 657, 658, 85, 1), (663, 661, 662, 85, 1), (671, 669, 670, 85, 1), (675, 673, 674, 85, 1), (683, 681, 682, 85, 1), (687, 685, 686, 85, 1), (691, 689, 690, 85, 1), (695, 693, 694, 85, 1), (714, 712, 713, 85, 1), (719, 717, 718, 85, 1), (723, 721, 722, 85, 1), (727, 725, 726, 85, 1), (747, 745, 746, 85, 1), (754, 752, 753, 85, 1), (764, 762, 763, 85, 1), (768, 766, 767, 85, 1), (799, 797, 798, 85, 1), (804, 802, 803, 85, 1), (812, 810, 811, 85, 1), (820, 818, 819, 85, 1), (828, 826, 827, 85, 1), (836, 834, 835, 85, 1), (840, 838, 839, 85, 1), (309, 308, 0, 85, 0), (306, 305, 0, 85, 0), (750, 749, 0, 85, 0), (594, 593, 0, 85, 0), (807, 806, 0, 85, 0), (743, 742, 0, 85, 0), (323, 322, 0, 85, 0), (320, 319, 0, 85, 0), (644, 643, 22, 85, 1), (329, 328, 0, 85, 1), (655, 654, 23, 85, 1), (353, 352, 2, 85, 1), (667, 666, 24, 85, 1), (816, 815, 33, 85, 1), (333, 332, 1, 85, 1), (564, 563, 13, 85, 1), (740, 739, 30, 85, 1), (614, 613, 17, 85, 1), (610, 609, 16, 85, 1), (679, 678, 25, 85, 1), (732, 731, 28, 85, 1), (736, 735, 29, 85, 1), (699, 698, 26, 85, 1), (707, 706, 27, 85, 1), (112, 111, 0, 86, 2), (758, 756, 757, 86, 1), (602, 600, 601, 86, 1), (118, 117, 0, 87, 2), (648, 646, 647, 87, 1), (703, 701, 702, 87, 1), (313, 311, 312, 87, 1), (618, 616, 617, 87, 1), (623, 622, 18, 87, 1), (627, 626, 19, 87, 1), (632, 631, 20, 87, 1), (636, 635, 21, 87, 1), (187, 186, 0, 88, 2), (568, 566, 567, 88, 1), (583, 581, 582, 88, 1), (337, 335, 336, 88, 1), (395, 393, 394, 88, 1), (550, 548, 549, 88, 1), (556, 554, 555, 88, 1), (572, 571, 14, 88, 1), (576, 575, 15, 88, 1), (579, 578, 0, 88, 0), (241, 240, 0, 90, 2), (824, 822, 823, 90, 1), (832, 830, 831, 90, 1), (844, 842, 843, 90, 1), (216, 215, 0, 89, 2), (772, 770, 771, 89, 1), (776, 774, 775, 89, 1), (780, 779, 31, 89, 1), (792, 791, 32, 89, 1), (795, 794, 0, 89, 0), (783, 782, 0, 89, 0), (366, 365, 0, 93, 2), (391, 389, 390, 93, 1), (399, 398, 3, 93, 1), (403, 402, 4, 93, 1), (410, 409, 0, 93, 0), (538, 537, 10, 93, 1), (542, 541, 11, 93, 1), (546, 545, 12, 93, 1), (474, 473, 8, 93, 1), (418, 417, 6, 93, 1), (479, 478, 9, 93, 1), (470, 469, 7, 93, 1), (407, 406, 5, 93, 1), (850, 849, 0, 91, 2), (1042, 1041, 35, 91, 1), (1210, 1209, 65, 91, 1), (1062, 1061, 37, 91, 1), (1038, 1037, 34, 91, 1), (1162, 1161, 57, 91, 1), (1046, 1045, 36, 91, 1), (1034, 1032, 1033, 91, 1), (1050, 1048, 1049, 91, 1), (1054, 1052, 1053, 91, 1), (1058, 1056, 1057, 91, 1), (1066, 1064, 1065, 91, 1), (1086, 1085, 41, 91, 1), (1095, 1094, 43, 91, 1), (1091, 1090, 42, 91, 1), (1106, 1105, 45, 91, 1), (1102, 1101, 44, 91, 1), (1118, 1117, 48, 91, 1), (1122, 1121, 49, 91, 1), (1126, 1125, 50, 91, 1), (1114, 1113, 47, 91, 1), (1110, 1109, 46, 91, 1), (1082, 1081, 40, 91, 1), (1078, 1077, 39, 91, 1), (1074, 1073, 38, 91, 1), (1070, 1068, 1069, 91, 1), (1146, 1145, 54, 91, 1), (1142, 1141, 53, 91, 1), (1150, 1149, 55, 91, 1), (1134, 1133, 51, 91, 1), (1138, 1137, 52, 91, 1), (1130, 1128, 1129, 91, 1), (1170, 1169, 58, 91, 1), (1178, 1177, 60, 91, 1), (1158, 1157, 56, 91, 1), (1154, 1152, 1153, 91, 1), (1214, 1213, 66, 91, 1), (1218, 1217, 67, 91, 1), (1206, 1205, 64, 91, 1), (1202, 1201, 63, 91, 1), (1174, 1173, 59, 91, 1), (1182, 1181, 61, 91, 1), (1250, 1249, 69, 91, 1), (1166, 1164, 1165, 91, 1), (1190, 1189, 62, 91, 1), (1186, 1184, 1185, 91, 1), (1194, 1192, 1193, 91, 1), (1198, 1196, 1197, 91, 1), (1226, 1225, 68, 91, 1), (1222, 1220, 1221, 91, 1), (1230, 1228, 1229, 91, 1), (1234, 1232, 1233, 91, 1), (1238, 1236, 1237, 91, 1), (1242, 1240, 1241, 91, 1), (1246, 1244, 1245, 91, 1), (1254, 1252, 1253, 91, 1), (1266, 1265, 71, 91, 1), (1262, 1261, 70, 91, 1), (1258, 1256, 1257, 91, 1), (1270, 1268, 1269, 91, 1), (1274, 1272, 1273, 91, 1), (1278, 1276, 1277, 91, 1), (1288, 1287, 72, 91, 1), (1282, 1280, 1281, 91, 1), (1292, 1290, 1291, 91, 1), (1304, 1303, 74, 91, 1), (1300, 1298, 1299, 91, 1), (1308, 1306, 1307, 91, 1), (1320, 1319, 76, 91, 1), (1324, 1323, 77, 91, 1), (1316, 1315, 75, 91, 1), (1332, 1331, 79, 91, 1), (1336, 1335, 80, 91, 1), (1328, 1327, 78, 91, 1), (1344, 1343, 82, 91, 1), (1340, 1339, 81, 91, 1), (1312, 1310, 1311, 91, 1), (1348, 1346, 1347, 91, 1), (1352, 1350, 1351, 91, 1), (1356, 1354, 1355, 91, 1), (1296, 1295, 73, 91, 1), (1360, 1358, 1359, 91, 1), (1368, 1367, 83, 91, 1), (1364, 1362, 1363, 91, 1), (1372, 1370, 1371, 91, 1), (1376, 1374, 1375, 91, 1), (0, 0, 0, 0, 9), (422, 420, 421, 94, 1), (426, 424, 425, 94, 1), (432, 430, 431, 94, 1), (436, 434, 435, 94, 1), (442, 441, 0, 94, 0), (483, 481, 482, 94, 1), (487, 485, 486, 94, 1), (439, 438, 0, 95, 0), (494, 493, 0, 95, 0), (491, 490, 0, 95, 0), (499, 498, 0, 95, 0), (447, 446, 0, 96, 0)]
def pm_pl (m : Nat) : Nat × Nat × Nat × Nat × Nat := pm_pls.getD m (0, 0, 0, 0, 0)
def pm_cps : List (Nat × Nat) := [(101, 85), (109, 86), (115, 87), (184, 88), (238, 90), (213, 89), (363, 93), (847, 91)]
def pm_own (m : Nat) : String := (pm_y m).cls
def pm_has (i : Nat) (w : Cond) : Bool := decide (lw_tbl[i]? = some w)
theorem pm_has_mem {i : Nat} {w : Cond} (h : pm_has i w = true) : w ∈ lw_tbl := List.mem_of_getElem? (of_decide_eq_true h)
/-- the words that hold at any depth -/
def lw_g : List Cond := lw_tbl.filter goodWord
theorem pm_has_g {i : Nat} {w : Cond} (h : pm_has i w = true) (g : goodWord w = true) : w ∈ lw_g := List.mem_filter.mpr ⟨pm_has_mem h, g⟩
theorem pm_good : GoodIn lw_g lw_g := fun w h => ⟨h, good_of_word (List.mem_filter.mp h).2⟩
theorem pm_w_max : Cond.static Lib.Math.max.name ∈ lw_g := pm_has_g (i := 339) (by decide +kernel) rfl
theorem pm_w_min : Cond.static Lib.Math.min.name ∈ lw_g := pm_has_g (i := 369) (by decide +kernel) rfl
theorem pm_w_abs : Cond.static Lib.Math.abs.name ∈ lw_g := pm_has_g (i := 709) (by decide +kernel) rfl
theorem pm_wc_max : Cond.code Lib.Math.max.name Lib.Math.max.code 2 (some .int) ∈ lw_g := pm_has_g (i := 340) (by decide +kernel) rfl
theorem pm_wc_min : Cond.code Lib.Math.min.name Lib.Math.min.code 2 (some .int) ∈ lw_g := pm_has_g (i := 370) (by decide +kernel) rfl
theorem pm_wc_abs : Cond.code Lib.Math.abs.name Lib.Math.abs.code 1 (some .int) ∈ lw_g := pm_has_g (i := 710) (by decide +kernel) rfl
theorem pm_w_math : Cond.initialized "java/lang/Math" ∈ lw_g := pm_has_g (i := 92) (by decide +kernel) rfl
theorem pm_w_sys : Cond.initialized "java/lang/System" ∈ lw_g := pm_has_g (i := 99) (by decide +kernel) rfl
theorem pm_w_cpn : Cond.native arraycopyName ∈ lw_g := pm_has_g (i := 651) (by decide +kernel) rfl
theorem pm_w_cps : Cond.static arraycopyName ∈ lw_g := pm_has_g (i := 650) (by decide +kernel) rfl
theorem pm_w_obi : Cond.instanceMethod objectInit ∈ lw_g := pm_has_g (i := 106) (by decide +kernel) rfl
theorem pm_w_obc : Cond.code objectInit ⟨#[0xb1]⟩ 1 none ∈ lw_g := pm_has_g (i := 107) (by decide +kernel) rfl
/-- a method's own words -/
def pm_mok (m : Nat) : Bool := pm_has (pm_pl m).1 (.code (pm_y m) (pm_b m) (pm_ml m) (pm_rt m)) && pm_has (pm_pl m).2.2.2.1 (.initialized (pm_y m).cls)
  && (match (pm_pl m).2.2.2.2 with
    | 0 => pm_has (pm_pl m).2.1 (.static (pm_y m))
    | 1 => pm_has (pm_pl m).2.1 (.instanceMethod (pm_y m)) && pm_has (pm_pl m).2.2.1 (.selects (pm_y m).cls (pm_y m) (pm_y m)) && decide ((pm_ci m < 8 ∧ (pm_y m).cls = pm_C (pm_ci m)) ∨ (pm_ci m = 20 ∧ (pm_y m).cls = "java/lang/String"))
    | _ => pm_has (pm_pl m).2.1 (.instanceMethod (pm_y m)) && decide ((pm_y m).name = "<init>") && decide (pm_rt m = none))
  && decide ((pm_y m).cls ≠ "java/lang/invoke/MethodHandle" ∧ (pm_y m).cls ≠ "java/lang/invoke/VarHandle" ∧ (parseMethodDescriptor (pm_y m).desc).map (fun d => d.parameters.length) = some (pm_na0 m)) && plainName (pm_y m).cls
  && decide (pm_ml m ≤ 40) && decide ((pm_rk m = 0 → pm_rt m = none) ∧ (pm_rk m = 1 → pm_rt m = some .int) ∧ (pm_rk m = 2 → pm_rt m = some .boolean ∨ pm_rt m = some .byte) ∧ (pm_rk m = 3 → pm_rt m = some .long) ∧ (pm_rk m = 5 → pm_rt m = some .char))
  && (match pm_rt m with
    | some (.object _) => true
    | _ => decide (pm_rk m ≠ 4)) && decide (m < 205 ∧ m ≠ 192)
/-- how long an instruction is -/
def pm_il (i : Instr) (r : Nat × Nat × Nat) : Nat := match i with
  | .bipush _ | .ldc _ | .iload _ | .lload _ | .aload _ | .istore _ | .lstore _ | .astore _ | .newarray _ => 2
  | .sipush _ | .ldc_w _ | .ldc2_w _ | .iinc _ _ | .goto _ | .ifCond _ _ | .if_icmp _ _ | .getfield _ | .putfield _ | .getstatic _ | .new _ | .anewarray _ | .invokevirtual _ | .invokestatic _ | .invokespecial _ => 3
  | .tableswitch _ _ _ _ | .lookupswitch _ _ => r.1
  | _ => 1
def pm_il0 : Instr → Nat × Nat × Nat → Bool := fun i r => match i with
  | .lookupswitch _ ps => (ps.toList.zip (ps.toList.drop 1)).all (fun (a, next) => a.1 < next.1)
  | _ => true
/-- the words that an instruction of method m wants -/
def pm_lnk (m : Nat) (i : Instr) (r : Nat × Nat × Nat) : Bool := match i with
  | .getfield x => if r.1 = 20 then pm_has r.2.2 (.fieldLink (pm_own m) x "java/lang/String" (if r.2.1 = 0 then "value" else "coder") (if r.2.1 = 0 then "[B" else "B")) else decide (r.1 < 8 ∧ r.2.1 < pm_nf r.1 ∧ (pm_T r.1 r.2.1).1 = pm_C r.1) && pm_has r.2.2 (.fieldLink (pm_own m) x (pm_T r.1 r.2.1).1 (pm_T r.1 r.2.1).2.1 (pm_T r.1 r.2.1).2.2.1)
  | .putfield x => decide (r.1 < 8 ∧ r.2.1 < pm_nf r.1) && pm_has r.2.2 (.fieldLink (pm_own m) x (pm_T r.1 r.2.1).1 (pm_T r.1 r.2.1).2.1 (pm_T r.1 r.2.1).2.2.1) && decide ((pm_T r.1 r.2.1).2.2.2 = true → ((pm_y m).name = "<init>" ∧ (pm_T r.1 r.2.1).1 = pm_own m))
  | .getstatic x => match r.1, r.2.2 with
    | 0, 0 => pm_has r.2.1 (.fieldLink (pm_own m) x "IceBears" "KIND_ABOVE" "[I")
    | 0, 1 => decide (pm_own m = "IceBears$Acts" ∧ x = 44)
    | 1, 0 => pm_has r.2.1 (.fieldLink (pm_own m) x "IceBears$Acts" "BODIES" "[I")
    | 2, 0 => pm_has r.2.1 (.fieldLink (pm_own m) x "java/lang/String" "COMPACT_STRINGS" "Z")
    | 3, 0 => pm_has r.2.1 (.fieldLink (pm_own m) x "jdk/internal/util/Preconditions" "SIOOBE_FORMATTER" "Ljava/util/function/BiFunction;")
    | _, _ => false
  | .new x => decide (r.1 < 8) && pm_has r.2.1 (.classLink (pm_own m) x (pm_C r.1)) && pm_has (pm_cps.getD r.1 (0, 0)).1 (.instantiable (pm_C r.1) (pm_nf r.1)) && pm_has (pm_cps.getD r.1 (0, 0)).2 (.initialized (pm_C r.1))
  | .anewarray x => match r.1 with
    | 5 => pm_has r.2.1 (.classLink (pm_own m) x (pm_C 4)) 
    | 6 => pm_has r.2.1 (.classLink (pm_own m) x (pm_C 3)) 
    | _ => false
  | .newarray t => match t with
    | .int => pm_has 133 (.arrayClass .int)
    | .byte => pm_has 208 (.arrayClass .byte)
    | .boolean => pm_has 1030 (.arrayClass .boolean)
    | .long => pm_has 256 (.arrayClass .long)
    | _ => true
  | .ldc x => match r.1 with
    | 0 => pm_has r.2.2 (.constant (pm_own m) x (Int32.ofNat r.2.1))
    | _ => decide (pm_own m = "IceBears$Reader" ∧ r.2.1 < 7 ∧ ([74, 76, 78, 80, 100, 92, 98] : List Nat).getD r.2.1 0 = x)
  | .ldc_w x => pm_has r.2.2 (.constant (pm_own m) x (Int32.ofNat r.2.1))
  | .ldc2_w x => pm_has r.2.2 (.constantLong (pm_own m) x (Int64.ofNat r.2.1))
  | .invokevirtual x => match r.1 with
    | 0 => pm_has r.2.2 (.methodLink (pm_own m) x (pm_y r.2.1)) && decide (r.2.1 < 205 ∧ r.2.1 ≠ 192) && decide ((pm_pl r.2.1).2.2.2.2 = 1)
    | _ => true
  | .invokestatic x => match r.1 with
    | 0 => decide (r.2.1 < 205 ∧ r.2.1 ≠ 192) && decide ((pm_pl r.2.1).2.2.2.2 = 0) && (if r.2.2 = 0 then decide (pm_own m = "IceBears$Acts" ∧ x = 47 ∧ r.2.1 = 39) else pm_has r.2.2 (.methodLink (pm_own m) x (pm_y r.2.1)))
    | 4 => pm_has r.2.2 (.methodLink (pm_own m) x Lib.Math.max.name)
    | 5 => pm_has r.2.2 (.methodLink (pm_own m) x Lib.Math.min.name)
    | 6 => pm_has r.2.2 (.methodLink (pm_own m) x Lib.Math.abs.name)
    | 7 => pm_has r.2.2 (.methodLink (pm_own m) x arraycopyName)
    | _ => true
  | .invokespecial x => match r.1 with
    | 0 => pm_has r.2.2 (.methodLink (pm_own m) x (pm_y r.2.1)) && decide (r.2.1 < 205 ∧ r.2.1 ≠ 192) && decide ((pm_pl r.2.1).2.2.2.2 = 2)
    | 8 => pm_has r.2.2 (.methodLink (pm_own m) x objectInit)
    | _ => true
  | .lookupswitch _ ps => (ps.toList.zip (ps.toList.drop 1)).all (fun (a, next) => a.1 < next.1)
  | _ => true
def pm_chk (m : Nat) (e : Nat × Instr × Nat × Nat × Nat) : Bool := decide (decode (pm_b m) e.1 = .ok (e.2.1, pm_il e.2.1 e.2.2)) && pm_lnk m e.2.1 e.2.2
