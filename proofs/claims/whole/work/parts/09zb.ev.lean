theorem chk_all (d : Nat) (h1 : 3 ≤ d) (h2 : d ≤ 2000) (h3 : d % 4 = 0 ∨ d % 4 = 3) : chkD d = true := by
  sorry
