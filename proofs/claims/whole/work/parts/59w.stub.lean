/-! stub -/
theorem Pair_winter {X : pm_X} {g : List pm_S} {I : Nat → Nat → Int32} {J : Nat → Nat → Int64} (hg : g.length ≤ 600) (hr : gOK g) (hR : Rel I J) : Pair X 6 131 [] g I J := sorry
