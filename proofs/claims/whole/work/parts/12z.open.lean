/-- OPEN while the parts 07 are set aside -/
theorem pm_mok_ok : ∀ m, m < 192 → pm_mok m = true := sorry
theorem pm_at_chk {m pc : Nat} {i : Instr} {r : Nat × Nat × Nat} (h : pm_at m pc = some (i, r)) : decode (pm_b m) pc = .ok (i, pm_il i r) ∧ pm_lnk m i r = true := sorry
