theorem e_let {α β : Type} (e : α) (k : α → Option β) : dm_let e k = k e := rfl
theorem e_g {β : Type} {P : Prop} [Decidable P] {k : Option β} (h : P) : dm_g P k = k := if_pos h
theorem e_b1 {a b : Type} (x : a) (k : a → Option b) : dm_b1 (some x) k = k x := rfl
theorem e_b2 {a1 a2 b : Type} (x1 : a1) (x2 : a2) (k : a1 → a2 → Option b) : dm_b2 (some (x1, x2)) k = k x1 x2 := rfl
theorem e_b3 {a1 a2 a3 b : Type} (x1 : a1) (x2 : a2) (x3 : a3) (k : a1 → a2 → a3 → Option b) : dm_b3 (some (x1, x2, x3)) k = k x1 x2 x3 := rfl
theorem e_b4 {a1 a2 a3 a4 b : Type} (x1 : a1) (x2 : a2) (x3 : a3) (x4 : a4) (k : a1 → a2 → a3 → a4 → Option b) : dm_b4 (some (x1, x2, x3, x4)) k = k x1 x2 x3 x4 := rfl
theorem e_b5 {a1 a2 a3 a4 a5 b : Type} (x1 : a1) (x2 : a2) (x3 : a3) (x4 : a4) (x5 : a5) (k : a1 → a2 → a3 → a4 → a5 → Option b) : dm_b5 (some (x1, x2, x3, x4, x5)) k = k x1 x2 x3 x4 x5 := rfl
theorem e_b6 {a1 a2 a3 a4 a5 a6 b : Type} (x1 : a1) (x2 : a2) (x3 : a3) (x4 : a4) (x5 : a5) (x6 : a6) (k : a1 → a2 → a3 → a4 → a5 → a6 → Option b) : dm_b6 (some (x1, x2, x3, x4, x5, x6)) k = k x1 x2 x3 x4 x5 x6 := rfl
theorem e_b7 {a1 a2 a3 a4 a5 a6 a7 b : Type} (x1 : a1) (x2 : a2) (x3 : a3) (x4 : a4) (x5 : a5) (x6 : a6) (x7 : a7) (k : a1 → a2 → a3 → a4 → a5 → a6 → a7 → Option b) : dm_b7 (some (x1, x2, x3, x4, x5, x6, x7)) k = k x1 x2 x3 x4 x5 x6 x7 := rfl
theorem e_b8 {a1 a2 a3 a4 a5 a6 a7 a8 b : Type} (x1 : a1) (x2 : a2) (x3 : a3) (x4 : a4) (x5 : a5) (x6 : a6) (x7 : a7) (x8 : a8) (k : a1 → a2 → a3 → a4 → a5 → a6 → a7 → a8 → Option b) : dm_b8 (some (x1, x2, x3, x4, x5, x6, x7, x8)) k = k x1 x2 x3 x4 x5 x6 x7 x8 := rfl
theorem e_b9 {a1 a2 a3 a4 a5 a6 a7 a8 a9 b : Type} (x1 : a1) (x2 : a2) (x3 : a3) (x4 : a4) (x5 : a5) (x6 : a6) (x7 : a7) (x8 : a8) (x9 : a9) (k : a1 → a2 → a3 → a4 → a5 → a6 → a7 → a8 → a9 → Option b) : dm_b9 (some (x1, x2, x3, x4, x5, x6, x7, x8, x9)) k = k x1 x2 x3 x4 x5 x6 x7 x8 x9 := rfl
theorem e_b10 {a1 a2 a3 a4 a5 a6 a7 a8 a9 a10 b : Type} (x1 : a1) (x2 : a2) (x3 : a3) (x4 : a4) (x5 : a5) (x6 : a6) (x7 : a7) (x8 : a8) (x9 : a9) (x10 : a10) (k : a1 → a2 → a3 → a4 → a5 → a6 → a7 → a8 → a9 → a10 → Option b) : dm_b10 (some (x1, x2, x3, x4, x5, x6, x7, x8, x9, x10)) k = k x1 x2 x3 x4 x5 x6 x7 x8 x9 x10 := rfl

theorem q_sgn (z : Int32) : 0 ≤ z ↔ z.toBitVec.msb = false := by
  rw [Int32.le_iff_toInt_le, show (0 : Int32).toInt = 0 from rfl, ← Int32.toInt_toBitVec, BitVec.msb_eq_toInt]
  simp
theorem q_xor (x y : Int32) : 0 ≤ x ^^^ y ↔ (0 ≤ x ↔ 0 ≤ y) := by
  rw [q_sgn, q_sgn, q_sgn, Int32.toBitVec_xor, BitVec.msb_xor]
  cases x.toBitVec.msb <;> cases y.toBitVec.msb <;> simp
theorem q_tm (u v : Int) (hv : 0 < v) : (0 ≤ u ∧ u.tmod v = u % v ∧ u.tdiv v = u / v) ∨ (u < 0 ∧ u.tmod v = 0 ∧ u % v = 0 ∧ u.tdiv v = u / v) ∨ (u < 0 ∧ u.tmod v = u % v - v ∧ u % v ≠ 0 ∧ u.tdiv v = u / v + 1) := by
  rw [Int.tmod_eq_emod, Int.tdiv_eq_ediv, Int.sign_eq_one_of_pos hv]
  by_cases h : 0 ≤ u
  · left; simp [h]
  · right
    by_cases hd : v ∣ u
    · left; have := Int.emod_eq_zero_of_dvd hd; simp [hd, this]; omega
    · right
      have : u % v ≠ 0 := fun h => hd (Int.dvd_of_emod_eq_zero h)
      simp [h, hd, this]; omega
theorem q_fdiv (u v : Int) (h1 : -2147483648 ≤ u) (h2 : u ≤ 2147483647) (h3 : 0 < v) (h4 : v ≤ 2147483647) : f_J9_floorDiv_7cf53 (zi u) (zi v) = some (zi (u / v)) := by
  have hm1 := Int.emod_nonneg u (show v ≠ 0 by omega)
  have hm2 := Int.emod_lt_of_pos u h3
  have hd := Int.mul_tdiv_add_tmod u v
  have hx : (0 ≤ zi u ^^^ zi v) ↔ 0 ≤ u := by
    rw [q_xor, zi0, zi_le (by omega) (by omega) (by omega) (by omega), zi_le (by omega) (by omega) (by omega) (by omega)]; omega
  rw [f_J9_floorDiv_7cf53, zi1, e_g (by rw [zi0, zi_eq (by omega) (by omega) (by omega) (by omega)]; omega), e_let, zi_div (by omega) (by omega) (by omega) (by omega), zi_mul, zi_sub]
  simp only [hx]
  rcases q_tm u v h3 with ⟨h, e1, e2⟩ | ⟨h, e1, e3, e2⟩ | ⟨h, e1, e3, e2⟩
  · rw [if_pos h, e2]
  · rw [if_neg (by omega), if_pos (by congr 1; rw [Int.mul_comm]; omega), e2]
  · have hc := Int.mul_comm v (u.tdiv v)
    rw [if_neg (by omega), if_neg (by rw [zi_eq (by omega) (by omega) (by omega) (by omega)]; omega), e2]; congr 2; omega
theorem q_fmod (u v : Int) (h1 : -2147483648 ≤ u) (h2 : u ≤ 2147483647) (h3 : 0 < v) (h4 : v ≤ 2147483647) : f_J9_floorMod_7cf53 (zi u) (zi v) = some (zi (u % v)) := by
  have hm1 := Int.emod_nonneg u (show v ≠ 0 by omega)
  have hm2 := Int.emod_lt_of_pos u h3
  have hx : (0 ≤ zi u ^^^ zi v) ↔ 0 ≤ u := by
    rw [q_xor, zi0, zi_le (by omega) (by omega) (by omega) (by omega), zi_le (by omega) (by omega) (by omega) (by omega)]; omega
  rw [f_J9_floorMod_7cf53, e_g (by rw [zi0, zi_eq (by omega) (by omega) (by omega) (by omega)]; omega), e_let, zi_rem (by omega) (by omega) (by omega) (by omega), zi_add]
  simp only [hx]
  rcases q_tm u v h3 with ⟨h, e1, e2⟩ | ⟨h, e1, e3, e2⟩ | ⟨h, e1, e3, e2⟩
  · rw [if_pos h, e1]
  · rw [if_neg (by omega), if_pos (by rw [e1]; rfl), e1, e3]
  · rw [if_neg (by omega), if_neg (by rw [zi0, zi_eq (by omega) (by omega) (by omega) (by omega)]; omega), e1]; congr 2; omega
theorem q_red1 {a b c : Int} (ha : -536870912 ≤ a) (ha' : a ≤ 536870912) (hb : -536870912 ≤ b) (hb' : b ≤ 536870912) (hc : -536870912 ≤ c) (hc' : c ≤ 536870912) : (rd_done a b c → f_X1_isReduced (zi a) (zi b) (zi c) = some 1) ∧ (¬ rd_done a b c → f_X1_isReduced (zi a) (zi b) (zi c) = some 0) := by
  rw [f_X1_isReduced, q_abs b (by omega) (by omega), e_let]
  have h0 : (0 ≤ zi b) ↔ 0 ≤ b := by rw [zi0, zi_le (by omega) (by omega) (by omega) (by omega)]
  simp (disch := omega) only [h0, zi_lt, zi_eq]
  unfold rd_done
  constructor
  · intro h
    (repeat' split) <;> first | rfl | (exfalso; omega)
  · intro h
    (repeat' split) <;> first | rfl | (exfalso; omega)
theorem q_sh1 {a b : Int} (ha : -536870912 ≤ a) (ha' : a ≤ 536870912) (hb : -536870912 ≤ b) (hb' : b ≤ 536870912) : (rd_sh a b → f_X1_needsShift (zi a) (zi b) = some 1) ∧ (¬ rd_sh a b → f_X1_needsShift (zi a) (zi b) = some 0) := by
  rw [f_X1_needsShift, q_abs b (by omega) (by omega), zi_neg]
  simp (disch := omega) only [zi_lt, zi_eq]
  unfold rd_sh
  constructor
  · intro h
    (repeat' split) <;> first | rfl | (exfalso; omega)
  · intro h
    (repeat' split) <;> first | rfl | (exfalso; omega)
theorem q_red4 {a b c : Int} (ha : -1000000000000 ≤ a) (ha' : a ≤ 1000000000000) (hb : -1000000000000 ≤ b) (hb' : b ≤ 1000000000000) (hc : -1000000000000 ≤ c) (hc' : c ≤ 1000000000000) : (rd_done a b c → f_X4_isReduced (zj a) (zj b) (zj c) = some 1) ∧ (¬ rd_done a b c → f_X4_isReduced (zj a) (zj b) (zj c) = some 0) := by
  rw [f_X4_isReduced, q_size b (by omega) (by omega), e_b1, e_b1, zj0]
  simp (disch := omega) only [zj_lt, zj_le, zj_eq]
  unfold rd_done
  constructor
  · intro h
    (repeat' split) <;> first | rfl | (exfalso; omega)
  · intro h
    (repeat' split) <;> first | rfl | (exfalso; omega)
/-- the reference's shift -/
theorem q_shift4 {a b k : Int} (ha : 0 < a) (ha' : a ≤ 1000000000000) (hb : -1000000000000 ≤ b) (hb' : b ≤ 1000000000000) (h1 : -a < b + 2 * a * k) (h2 : b + 2 * a * k ≤ a) : f_X4_shift (zj a) (zj b) = some (zj k) := by
  have hk := rd_floor a b k ha h1 h2
  have e49 : ∀ n, f_X4_shift_L49 (zj a) (zj b) (n + 1) (zj k) = some (zj k) := by
    intro n
    rw [f_X4_shift_L49, zj2, zj_neg, zj_mul, zj_mul, zj_add, if_pos (by rw [zj_lt (by omega) (by omega) (by omega) (by omega)]; omega)]
  have e19 : ∀ n, f_X4_shift_L19 (zj a) (zj b) (n + 1) (zj k) = some (zj k) := by
    intro n
    rw [f_X4_shift_L19, zj2, zj_mul, zj_mul, zj_add, if_pos (by rw [zj_le (by omega) (by omega) (by omega) (by omega)]; omega)]
    exact e49 99999
  have e19' : ∀ n, f_X4_shift_L19 (zj a) (zj b) (n + 2) (zj (k + 1)) = some (zj k) := by
    intro n
    have hh : 2 * a * (k + 1) = 2 * a * k + 2 * a := by grind
    rw [f_X4_shift_L19, zj2, zj_mul, zj_mul, zj_add, if_neg (by rw [hh, zj_le (by omega) (by omega) (by omega) (by omega)]; omega), e_let, zj1, zj_sub, show k + 1 - 1 = k by omega]
    exact e19 n
  rw [f_X4_shift, zj2, zj_mul, e_g (by rw [show (0 : Int64) = zj 0 from rfl, zj_eq (by omega) (by omega) (by omega) (by omega)]; omega), e_let, zj_sub, zj_div (by omega) (by omega) (by omega) (by omega)]
  rcases q_tm (a - b) (2 * a) (by omega) with ⟨h, e1, e2⟩ | ⟨h, e1, e3, e2⟩ | ⟨h, e1, e3, e2⟩
  · rw [e2, hk]; exact e19 99999
  · rw [e2, hk]; exact e19 99999
  · rw [e2, hk]; exact e19' 99998
