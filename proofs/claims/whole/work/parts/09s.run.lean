theorem q_ap1 (a b c k : Int) (P Q R S : Int64) : f_X4_apply (zj a) (zj b) (zj c) P Q R S (1 : Int64) (zj k) (0 : Int64) (1 : Int64) = some (zj a, zj (b + 2 * a * k), zj ((a * k + b) * k + c), P, P * zj k + Q, R, R * zj k + S) := by
  rw [f_X4_apply]
  simp only [e_let, zj0, zj1, zj2, zj_mul, zj_add]
  have e1 : a * 1 * 1 + b * 1 * 0 + c * 0 * 0 = a := by grind
  have e2 : a * k * k + b * k * 1 + c * 1 * 1 = (a * k + b) * k + c := by grind
  have e3 : 2 * a * 1 * k + b * (1 * 1 + k * 0) + 2 * c * 0 * 1 = b + 2 * a * k := by grind
  rw [e1, e2, e3]
  simp only [← zj0, ← zj1]
  have h1 : P * 1 + Q * 0 = P := by grind
  have h2 : P * zj k + Q * 1 = P * zj k + Q := by grind
  have h3 : R * 1 + S * 0 = R := by grind
  have h4 : R * zj k + S * 1 = R * zj k + S := by grind
  rw [h1, h2, h3, h4]
theorem q_ap2 (a b c : Int) (P Q R S : Int64) : f_X4_apply (zj a) (zj b) (zj c) P Q R S (0 : Int64) (-1 : Int64) (1 : Int64) (0 : Int64) = some (zj c, zj (-b), zj a, Q, -P, S, -R) := by
  rw [f_X4_apply]
  simp only [e_let, zj0, zj1, zj2, zj_neg, zj_mul, zj_add]
  have e1 : a * 0 * 0 + b * 0 * 1 + c * 1 * 1 = c := by grind
  have e2 : a * -1 * -1 + b * -1 * 0 + c * 0 * 0 = a := by grind
  have e3 : 2 * a * 0 * -1 + b * (0 * 0 + -1 * 1) + 2 * c * 1 * 0 = -b := by grind
  rw [e1, e2, e3]
  simp only [← zj0, ← zj1, ← zjm1]
  have h1 : P * 0 + Q * 1 = Q := by grind
  have h2 : P * (-1) + Q * 0 = -P := by grind
  have h3 : R * 0 + S * 1 = S := by grind
  have h4 : R * (-1) + S * 0 = -R := by grind
  rw [h1, h2, h3, h4]
theorem q_sh {a b c k : Int} (p q r s : Int32) (ha : 0 < a) (ha' : a ≤ 536870912) (hb : -536870912 ≤ b) (hb' : b ≤ 536870912) (h1 : -a < b + 2 * a * k) (h2 : b + 2 * a * k ≤ a) : f_X1_shift (zi a) (zi b) (zi c) p q r s = some (zi (b + 2 * a * k), zi ((a * k + b) * k + c), p * zi k + q, r * zi k + s) := by
  rw [f_X1_shift, zi2, zi_mul, zi_sub, q_fdiv _ _ (by omega) (by omega) (by omega) (by omega), rd_floor a b k ha h1 h2, e_b1]
  simp only [e_let, zi_mul, zi_add]
/-- the class's run and the reference's steps go alike -/
theorem q_both (w : Int32) (n : Nat) : ∀ (a b c x y z : Int) (P Q R S : Int64) (i N1 N2 : Nat), rd_T n a b c x y z → 0 < a → b * b - 4 * a * c < 0 → a ≤ 536870912 → c ≤ 536870912 → -536870912 ≤ b → b ≤ 536870912 → i + n ≤ 1000 → n < N1 → n < N2 →
    (∃ P' Q' R' S' : Int64, f_X1_run_L10 w N1 (zi i) (zi a) (zi b) (zi c) P.toInt32 Q.toInt32 R.toInt32 S.toInt32 = some (zi (i + n : Nat), zi x, zi y, zi z, P'.toInt32, Q'.toInt32, R'.toInt32, S'.toInt32, w) ∧
      f_X4_steps_L2 N2 (zi i) (zj a) (zj b) (zj c) P Q R S = some (zi (i + n : Nat), zj x, zj y, zj z, P', Q', R', S')) ∧ (rd_done x y z ∧ 0 < x ∧ x ≤ 536870912 ∧ z ≤ 536870912 ∧ y * y - 4 * x * z = b * b - 4 * a * c) := by
  induction n with
  | zero =>
    intro a b c x y z P Q R S i N1 N2 hT ha hD ha' hc' hb hb' hi h1 h2
    obtain ⟨hd, rfl, rfl, rfl⟩ := hT
    obtain ⟨N1, rfl⟩ : ∃ m, N1 = m + 1 := ⟨N1 - 1, by omega⟩
    obtain ⟨N2, rfl⟩ : ∃ m, N2 = m + 1 := ⟨N2 - 1, by omega⟩
    have hc := rd_pos x y z ha hD
    refine ⟨⟨P, Q, R, S, ?_, ?_⟩, hd, ha, ha', hc', rfl⟩
    · rw [f_X1_run_L10, (q_red1 (by omega) (by omega) (by omega) (by omega) (by omega) (by omega)).1 hd, e_b1, if_neg (show ¬ (1 : Int32) = 0 by decide)]
      (repeat' split) <;> rfl
    · rw [f_X4_steps_L2, (q_red4 (by omega) (by omega) (by omega) (by omega) (by omega) (by omega)).1 hd, e_b1, if_neg (show ¬ (1 : Int32) = 0 by decide)]
      rfl
  | succ n ih =>
    intro a b c x y z P Q R S i N1 N2 hT ha hD ha' hc' hb hb' hi h1 h2
    obtain ⟨hd, hT⟩ := hT
    obtain ⟨N1, rfl⟩ : ∃ m, N1 = m + 1 := ⟨N1 - 1, by omega⟩
    obtain ⟨N2, rfl⟩ : ∃ m, N2 = m + 1 := ⟨N2 - 1, by omega⟩
    have hc := rd_pos a b c ha hD
    have hi1 : zi (i : Int) + 1 = zi ((i + 1 : Nat) : Int) := by rw [zi1, zi_add]; congr 1
    have hin : i + (n + 1) = i + 1 + n := by omega
    rw [f_X1_run_L10, (q_red1 (by omega) (by omega) (by omega) (by omega) (by omega) (by omega)).2 hd, e_b1, if_pos (show (0 : Int32) = 0 from rfl), zi1000, if_neg (by rw [zi_le (by omega) (by omega) (by omega) (by omega)]; omega), if_neg (show ¬ zi a ≤ 0 by rw [zi0, zi_le (by omega) (by omega) (by omega) (by omega)]; omega)]
    rw [f_X4_steps_L2, (q_red4 (by omega) (by omega) (by omega) (by omega) (by omega) (by omega)).2 hd, e_b1, if_pos (show (0 : Int32) = 0 from rfl), q_size _ (by omega) (by omega), e_b1, hin]
    rcases hT with ⟨hs, k, ⟨hk1, hk2⟩, hT⟩ | ⟨hs, hT⟩
    · obtain ⟨g1, g2⟩ := rd_shift a b c k ha hs hk1 hk2
      obtain ⟨⟨P', Q', R', S', e1, e2⟩, g⟩ := ih a (b + 2 * a * k) ((a * k + b) * k + c) x y z P (P * zj k + Q) R (R * zj k + S) (i + 1) N1 N2 hT ha (by omega) ha' (by omega) (by omega) (by omega) (by omega) (by omega) (by omega)
      rw [g1] at g
      refine ⟨⟨P', Q', R', S', ?_, ?_⟩, g⟩
      · rw [(q_sh1 (by omega) (by omega) (by omega) (by omega)).1 hs, e_b1, if_neg (show ¬ (1 : Int32) = 0 by decide), q_sh _ _ _ _ ha ha' hb hb' hk1 hk2, e_b4, e_let, hi1]
        rw [Int64.toInt32_add, Int64.toInt32_add, Int64.toInt32_mul, Int64.toInt32_mul, zj_zi] at e1
        exact e1
      · rw [q_shift4 ha (by omega) (by omega) (by omega) hk1 hk2]
        simp only [e_b1, q_ap1, e_b7, e_let, hi1]
        unfold rd_sh at hs
        rw [zj_neg]
        by_cases hab : a < b.natAbs
        · rw [if_pos (by rw [zj_lt (by omega) (by omega) (by omega) (by omega)]; omega)]; exact e2
        · rw [if_neg (by rw [zj_lt (by omega) (by omega) (by omega) (by omega)]; omega), if_pos (by congr 1; omega)]; exact e2
    · have hs' := hs
      unfold rd_sh at hs'
      obtain ⟨⟨P', Q', R', S', e1, e2⟩, g⟩ := ih c (-b) a x y z Q (-P) S (-R) (i + 1) N1 N2 hT hc (by grind) hc' ha' (by omega) (by omega) (by omega) (by omega) (by omega)
      refine ⟨⟨P', Q', R', S', ?_, ?_⟩, g.1, g.2.1, g.2.2.1, g.2.2.2.1, by rw [g.2.2.2.2]; grind⟩
      · rw [(q_sh1 (by omega) (by omega) (by omega) (by omega)).2 hs, e_b1, if_pos (show (0 : Int32) = 0 from rfl), f_X1_turn]
        simp only [e_let, e_b7, hi1, zi_neg]
        rw [Int64.toInt32_neg, Int64.toInt32_neg] at e1
        exact e1
      · rw [zj_neg, if_neg (by rw [zj_lt (by omega) (by omega) (by omega) (by omega)]; omega), if_neg (by rw [zj_eq (by omega) (by omega) (by omega) (by omega)]; omega), q_ap2, e_b7, e_let, hi1]
        exact e2
/-- a form whose middle number is in its place, and whose first number is at most 2 to the power k -/
theorem rd_term (k : Nat) : ∀ (a b c : Int), 0 < a → a ≤ 2 ^ k → -a < b → b ≤ a → b * b - 4 * a * c < -2 → ∃ n x y z, n ≤ 2 * k ∧ rd_T n a b c x y z := by
  induction k with
  | zero =>
    intro a b c ha hk h1 h2 hD
    have : a = 1 := by simp at hk; omega
    subst this
    have hc := rd_pos 1 b c ha (by omega)
    exact ⟨0, 1, b, c, by omega, by unfold rd_done; omega, rfl, rfl, rfl⟩
  | succ k ih =>
    intro a b c ha hk h1 h2 hD
    have hc := rd_pos a b c ha (by omega)
    have hns : ¬ rd_sh a b := by unfold rd_sh; omega
    by_cases hd : rd_done a b c
    · exact ⟨0, a, b, c, by omega, hd, rfl, rfl, rfl⟩
    have hq := rd_sq a b ha (by omega) h2
    by_cases hac : a = c
    · subst hac
      have hb0 : b < 0 := by unfold rd_done at hd; omega
      exact ⟨1, a, -b, a, by omega, hd, .inr ⟨hns, by unfold rd_done; omega, rfl, rfl, rfl⟩⟩
    have hca : c < a := by unfold rd_done at hd; omega
    have h2k : (2 : Int) ^ (k + 1) = 2 * 2 ^ k := by rw [Int.pow_succ, Int.mul_comm]
    have step : ∀ m : Nat, (∀ b' c' : Int, -c < b' → b' ≤ c → b' * b' - 4 * c * c' = b * b - 4 * a * c → (∃ j, b' = -b + 2 * c * j ∧ c' = (c * j + -b) * j + a) → ∃ n x y z, n ≤ m ∧ rd_T n c b' c' x y z) → ∃ n x y z, n ≤ m + 2 ∧ rd_T n a b c x y z := by
      intro m H
      by_cases hd2 : rd_done c (-b) a
      · exact ⟨1, c, -b, a, by omega, hd, .inr ⟨hns, hd2, rfl, rfl, rfl⟩⟩
      by_cases hs : rd_sh c (-b)
      · obtain ⟨j, hj1, hj2⟩ := rd_k c (-b) hc
        have g := rd_shift c (-b) a j hc hs hj1 hj2
        obtain ⟨n, x, y, z, hn, hT⟩ := H _ _ hj1 hj2 (by rw [g.1]; grind) ⟨j, rfl, rfl⟩
        exact ⟨n + 2, x, y, z, by omega, hd, .inr ⟨hns, hd2, .inl ⟨hs, j, ⟨hj1, hj2⟩, hT⟩⟩⟩
      · have hs' := hs
        unfold rd_sh at hs'
        obtain ⟨n, x, y, z, hn, hT⟩ := H (-b) a (by omega) (by omega) (by grind) ⟨0, by omega, by omega⟩
        exact ⟨n + 1, x, y, z, by omega, hd, .inr ⟨hns, hT⟩⟩
    by_cases hbig : -(b * b - 4 * a * c) ≤ a * a
    · -- the first number halves
      have hh : c * 2 ≤ a := by
        have h4 : a * (c * 2) ≤ a * a := by grind
        exact Int.le_of_mul_le_mul_left h4 ha
      obtain ⟨n, x, y, z, hn, hT⟩ := step (2 * k) (fun b' c' g1 g2 g3 _ => ih c b' c' hc (by omega) g1 g2 (by omega))
      exact ⟨n, x, y, z, by omega, hT⟩
    · -- one more is the last
      obtain ⟨n, x, y, z, hn, hT⟩ := step 0 (fun b' c' g1 g2 g3 ⟨j, e1, e2⟩ => by
        refine ⟨0, c, b', c', by omega, ?_, rfl, rfl, rfl⟩
        have hb2 : b < 2 * c ∧ -b < 2 * c := by
          constructor
          · have h0 : 0 ≤ (a - b) * (a - b) := by
              have := Int.mul_nonneg (show 0 ≤ a - b by omega) (show 0 ≤ a - b by omega); exact this
            have h4 : a * b < a * (2 * c) := by grind
            exact Int.lt_of_mul_lt_mul_left h4 (by omega)
          · have h0 : 0 ≤ (a + b) * (a + b) := by
              have := Int.mul_nonneg (show 0 ≤ a + b by omega) (show 0 ≤ a + b by omega); exact this
            have h4 : a * (-b) < a * (2 * c) := by grind
            exact Int.lt_of_mul_lt_mul_left h4 (by omega)
        have hj : j = 0 ∨ j = 1 ∨ j = -1 := by
          have u1 : c * j < c * 2 := by
            have : 2 * (c * j) < 3 * c := by grind
            omega
          have u2 : c * (-2) < c * j := by
            have : -3 * c < 2 * (c * j) := by grind
            omega
          have := Int.lt_of_mul_lt_mul_left u1 (by omega)
          have := Int.lt_of_mul_lt_mul_left u2 (by omega)
          omega
        rcases hj with rfl | rfl | rfl
        · unfold rd_done; omega
        · have : c' = a - b + c := by grind
          unfold rd_done; omega
        · have : c' = a + b + c := by grind
          unfold rd_done; omega)
      exact ⟨n, x, y, z, by omega, hT⟩
theorem rd_end (k : Nat) (a b c : Int) (ha : 0 < a) (hk : a ≤ 2 ^ k) (hD : b * b - 4 * a * c < -2) : ∃ n x y z, n ≤ 2 * k + 1 ∧ rd_T n a b c x y z := by
  have hc := rd_pos a b c ha (by omega)
  by_cases hd : rd_done a b c
  · exact ⟨0, a, b, c, by omega, hd, rfl, rfl, rfl⟩
  by_cases hs : rd_sh a b
  · obtain ⟨j, hj1, hj2⟩ := rd_k a b ha
    obtain ⟨g1, g2⟩ := rd_shift a b c j ha hs hj1 hj2
    obtain ⟨n, x, y, z, hn, hT⟩ := rd_term k a (b + 2 * a * j) ((a * j + b) * j + c) ha hk hj1 hj2 (by omega)
    exact ⟨n + 1, x, y, z, by omega, hd, .inl ⟨hs, j, ⟨hj1, hj2⟩, hT⟩⟩
  · have hs' := hs
    unfold rd_sh at hs'
    obtain ⟨n, x, y, z, hn, hT⟩ := rd_term k a b c ha hk (by omega) (by omega) (by omega)
    exact ⟨n, x, y, z, by omega, hT⟩
