/-! The reduction, on whole numbers. -/
def rd_done (a b c : Int) : Prop := (b ≤ a ∧ -b ≤ a) ∧ a ≤ c ∧ (0 ≤ b ∨ (-b ≠ a ∧ a ≠ c))
def rd_sh (a b : Int) : Prop := (a < b ∨ a < -b) ∨ b = -a
/-- after exactly n steps from (a, b, c) the reduced form (x, y, z) is reached -/
def rd_T : Nat → Int → Int → Int → Int → Int → Int → Prop
  | 0, a, b, c, x, y, z => rd_done a b c ∧ x = a ∧ y = b ∧ z = c
  | n + 1, a, b, c, x, y, z => ¬ rd_done a b c ∧ ((rd_sh a b ∧ ∃ k : Int, (-a < b + 2 * a * k ∧ b + 2 * a * k ≤ a) ∧ rd_T n a (b + 2 * a * k) ((a * k + b) * k + c) x y z) ∨ (¬ rd_sh a b ∧ rd_T n c (-b) a x y z))
theorem rd_floor (a b k : Int) (ha : 0 < a) (h1 : -a < b + 2 * a * k) (h2 : b + 2 * a * k ≤ a) : (a - b) / (2 * a) = k := by
  have e1 : a - b = (a - b - 2 * a * k) + 2 * a * k := by omega
  rw [e1, Int.add_mul_ediv_left _ _ (by omega), Int.ediv_eq_zero_of_lt (by omega) (by omega), Int.zero_add]
theorem rd_k (a b : Int) (ha : 0 < a) : ∃ k : Int, (-a < b + 2 * a * k ∧ b + 2 * a * k ≤ a) := by
  refine ⟨(a - b) / (2 * a), ?_⟩
  have h1 := Int.emod_nonneg (a - b) (show 2 * a ≠ 0 by omega)
  have h2 := Int.emod_lt_of_pos (a - b) (show 0 < 2 * a by omega)
  have h3 := Int.mul_ediv_add_emod (a - b) (2 * a)
  omega
theorem rd_sq (a b : Int) (ha : 0 < a) (h1 : -a ≤ b) (h2 : b ≤ a) : b * b ≤ a * a := by
  have h : 0 ≤ (a - b) * (a + b) := Int.mul_nonneg (by omega) (by omega)
  grind
theorem rd_pos (a b c : Int) (ha : 0 < a) (hD : b * b - 4 * a * c < 0) : 0 < c := by
  by_cases h : 0 < c
  · exact h
  · have h1 : 0 ≤ a * (-c) := Int.mul_nonneg (by omega) (by omega)
    have h2 : 0 ≤ b * b := by
      rcases Int.le_total 0 b with h | h
      · exact Int.mul_nonneg h h
      · have := Int.mul_nonneg (show 0 ≤ -b by omega) (show 0 ≤ -b by omega); grind
    grind
/-- what a shift leaves: the same discriminant, a third number that is no larger -/
theorem rd_shift (a b c k : Int) (ha : 0 < a) (hs : rd_sh a b) (h1 : -a < b + 2 * a * k) (h2 : b + 2 * a * k ≤ a) : (b + 2 * a * k) * (b + 2 * a * k) - 4 * a * ((a * k + b) * k + c) = b * b - 4 * a * c ∧ (a * k + b) * k + c ≤ c := by
  have e : (b + 2 * a * k) * (b + 2 * a * k) - 4 * a * ((a * k + b) * k + c) = b * b - 4 * a * c := by grind
  refine ⟨e, ?_⟩
  have q1 := rd_sq a (b + 2 * a * k) ha (by omega) h2
  have q2 : a * a ≤ b * b := by
    rcases hs with (h | h) | h
    · have := Int.mul_le_mul (show a ≤ b by omega) (show a ≤ b by omega) (by omega) (by omega); exact this
    · have := Int.mul_le_mul (show a ≤ -b by omega) (show a ≤ -b by omega) (by omega) (by omega); grind
    · subst h; grind
  have q3 : 4 * a * ((a * k + b) * k + c) ≤ 4 * a * c := by omega
  exact Int.le_of_mul_le_mul_left q3 (by omega)
