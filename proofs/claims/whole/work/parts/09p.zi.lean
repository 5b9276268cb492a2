/-! Whole numbers in place of the machine's: zi and zj are the machine's numbers of a whole number. -/
def zi (z : Int) : Int32 := Int32.ofInt z
def zj (z : Int) : Int64 := Int64.ofInt z
theorem zi_add (a b : Int) : zi a + zi b = zi (a + b) := (Int32.ofInt_add a b).symm
theorem zi_sub (a b : Int) : zi a - zi b = zi (a - b) := (Int32.ofInt_sub a b).symm
theorem zi_mul (a b : Int) : zi a * zi b = zi (a * b) := (Int32.ofInt_mul a b).symm
theorem zi_neg (a : Int) : -zi a = zi (-a) := (Int32.ofInt_neg a).symm
theorem zj_add (a b : Int) : zj a + zj b = zj (a + b) := (Int64.ofInt_add a b).symm
theorem zj_sub (a b : Int) : zj a - zj b = zj (a - b) := (Int64.ofInt_sub a b).symm
theorem zj_mul (a b : Int) : zj a * zj b = zj (a * b) := (Int64.ofInt_mul a b).symm
theorem zj_neg (a : Int) : -zj a = zj (-a) := (Int64.ofInt_neg a).symm
theorem zi_toInt {a : Int} (h1 : -2147483648 ≤ a) (h2 : a ≤ 2147483647) : (zi a).toInt = a := Int32.toInt_ofInt_of_le (by omega) (by omega)
theorem zj_toInt {a : Int} (h1 : -9223372036854775808 ≤ a) (h2 : a ≤ 9223372036854775807) : (zj a).toInt = a := Int64.toInt_ofInt_of_le (by omega) (by omega)
theorem zi_lt {a b : Int} (h1 : -2147483648 ≤ a) (h2 : a ≤ 2147483647) (h3 : -2147483648 ≤ b) (h4 : b ≤ 2147483647) : zi a < zi b ↔ a < b := by
  rw [Int32.lt_iff_toInt_lt, zi_toInt h1 h2, zi_toInt h3 h4]
theorem zi_le {a b : Int} (h1 : -2147483648 ≤ a) (h2 : a ≤ 2147483647) (h3 : -2147483648 ≤ b) (h4 : b ≤ 2147483647) : zi a ≤ zi b ↔ a ≤ b := by
  rw [Int32.le_iff_toInt_le, zi_toInt h1 h2, zi_toInt h3 h4]
theorem zi_eq {a b : Int} (h1 : -2147483648 ≤ a) (h2 : a ≤ 2147483647) (h3 : -2147483648 ≤ b) (h4 : b ≤ 2147483647) : zi a = zi b ↔ a = b := by
  rw [← Int32.toInt_inj, zi_toInt h1 h2, zi_toInt h3 h4]
theorem zj_lt {a b : Int} (h1 : -9223372036854775808 ≤ a) (h2 : a ≤ 9223372036854775807) (h3 : -9223372036854775808 ≤ b) (h4 : b ≤ 9223372036854775807) : zj a < zj b ↔ a < b := by
  rw [Int64.lt_iff_toInt_lt, zj_toInt h1 h2, zj_toInt h3 h4]
theorem zj_le {a b : Int} (h1 : -9223372036854775808 ≤ a) (h2 : a ≤ 9223372036854775807) (h3 : -9223372036854775808 ≤ b) (h4 : b ≤ 9223372036854775807) : zj a ≤ zj b ↔ a ≤ b := by
  rw [Int64.le_iff_toInt_le, zj_toInt h1 h2, zj_toInt h3 h4]
theorem zj_eq {a b : Int} (h1 : -9223372036854775808 ≤ a) (h2 : a ≤ 9223372036854775807) (h3 : -9223372036854775808 ≤ b) (h4 : b ≤ 9223372036854775807) : zj a = zj b ↔ a = b := by
  rw [← Int64.toInt_inj, zj_toInt h1 h2, zj_toInt h3 h4]
theorem zi_div {a b : Int} (h1 : -2147483648 ≤ a) (h2 : a ≤ 2147483647) (h3 : -2147483648 ≤ b) (h4 : b ≤ 2147483647) : zi a / zi b = zi (a.tdiv b) := (Int32.ofInt_tdiv h1 h2 h3 h4).symm
theorem zj_div {a b : Int} (h1 : -9223372036854775808 ≤ a) (h2 : a ≤ 9223372036854775807) (h3 : -9223372036854775808 ≤ b) (h4 : b ≤ 9223372036854775807) : zj a / zj b = zj (a.tdiv b) := (Int64.ofInt_tdiv h1 h2 h3 h4).symm
theorem zi_rem {a b : Int} (h1 : -2147483648 ≤ a) (h2 : a ≤ 2147483647) (h3 : -2147483648 ≤ b) (h4 : b ≤ 2147483647) : zi a - zi a / zi b * zi b = zi (a.tmod b) := by
  rw [zi_div h1 h2 h3 h4, zi_mul, zi_sub, Int.tmod_def, Int.mul_comm]
theorem zj_rem {a b : Int} (h1 : -9223372036854775808 ≤ a) (h2 : a ≤ 9223372036854775807) (h3 : -9223372036854775808 ≤ b) (h4 : b ≤ 9223372036854775807) : zj a - zj a / zj b * zj b = zj (a.tmod b) := by
  rw [zj_div h1 h2 h3 h4, zj_mul, zj_sub, Int.tmod_def, Int.mul_comm]
theorem zi_nat {a : Int} (h1 : 0 ≤ a) (h2 : a ≤ 2147483647) : (zi a).toNatClampNeg = a.toNat := Int32.toNatClampNeg_ofInt_of_le (by omega) (by omega)
theorem zi_zj {a : Int} (h1 : -2147483648 ≤ a) (h2 : a ≤ 2147483647) : (zi a).toInt64 = zj a := Int32.toInt64_ofInt h1 h2
theorem zj_zi (a : Int) : (zj a).toInt32 = zi a := Int64.toInt32_ofInt
theorem zi_of (x : Int32) : x = zi x.toInt := (Int32.ofInt_toInt x).symm
theorem zi_ge (x : Int32) : -2147483648 ≤ x.toInt := Int32.minValue_le_toInt x
theorem zi_gt (x : Int32) : x.toInt ≤ 2147483647 := Int32.toInt_le x
theorem zi_ofNat (n : Nat) : Int32.ofNat n = zi n := Int32.ofInt_eq_ofNat.symm
theorem zi_ofInt (n : Int) : Int32.ofInt n = zi n := rfl
theorem zj_ofInt (n : Int) : Int64.ofInt n = zj n := rfl
theorem zi0 : (0 : Int32) = zi 0 := rfl
theorem zi1 : (1 : Int32) = zi 1 := rfl
theorem zi2 : (2 : Int32) = zi 2 := rfl
theorem zi3 : (3 : Int32) = zi 3 := rfl
theorem zi4 : (4 : Int32) = zi 4 := rfl
theorem zi5 : (5 : Int32) = zi 5 := rfl
theorem zi6 : (6 : Int32) = zi 6 := rfl
theorem zi7 : (7 : Int32) = zi 7 := rfl
theorem zi8 : (8 : Int32) = zi 8 := rfl
theorem zi27 : (27 : Int32) = zi 27 := rfl
theorem zi40 : (40 : Int32) = zi 40 := rfl
theorem zi41 : (41 : Int32) = zi 41 := rfl
theorem zi48 : (48 : Int32) = zi 48 := rfl
theorem zi50 : (50 : Int32) = zi 50 := rfl
theorem zi57 : (57 : Int32) = zi 57 := rfl
theorem zi65 : (65 : Int32) = zi 65 := rfl
theorem zi90 : (90 : Int32) = zi 90 := rfl
theorem zi97 : (97 : Int32) = zi 97 := rfl
theorem zi122 : (122 : Int32) = zi 122 := rfl
theorem zi100 : (100 : Int32) = zi 100 := rfl
theorem zi500 : (500 : Int32) = zi 500 := rfl
theorem zi1000 : (1000 : Int32) = zi 1000 := rfl
theorem zi16384 : (16384 : Int32) = zi 16384 := rfl
theorem zi20000 : (20000 : Int32) = zi 20000 := rfl
theorem zi100000 : (100000 : Int32) = zi 100000 := rfl
theorem zim1 : (-1 : Int32) = zi (-1) := rfl
theorem zim3 : (-3 : Int32) = zi (-3) := rfl
theorem zim2000 : (-2000 : Int32) = zi (-2000) := rfl
theorem zim20000 : (-20000 : Int32) = zi (-20000) := rfl
theorem zj0 : (0 : Int64) = zj 0 := rfl
theorem zj1 : (1 : Int64) = zj 1 := rfl
theorem zj2 : (2 : Int64) = zj 2 := rfl
theorem zj4 : (4 : Int64) = zj 4 := rfl
theorem zj100 : (100 : Int64) = zj 100 := rfl
theorem zj101 : (101 : Int64) = zj 101 := rfl
theorem zjm1 : (-1 : Int64) = zj (-1) := rfl
theorem zjm101 : (-101 : Int64) = zj (-101) := rfl

/-- the class's common divisor -/
theorem q_gcdL (k : Nat) : ∀ (y x i n : Nat), y < 2 ^ k → y < 2147483648 → x < 2147483648 → i + 2 * k ≤ 100 → 2 * k < n → f_X3_gcd_L13 n (zi i) (zi y) (zi x) = some (zi (Nat.gcd x y)) := by
  induction k with
  | zero =>
    intro y x i n hy _ hx hi hn
    obtain ⟨n, rfl⟩ : ∃ m, n = m + 1 := ⟨n - 1, by omega⟩
    have : y = 0 := by simpa using hy
    subst this
    rw [f_X3_gcd_L13, Nat.gcd_zero_right, zi0]
    split
    · rfl
    · rw [if_pos (show zi ((0 : Nat) : Int) = zi 0 from rfl)]
  | succ k ih =>
    intro y x i n hy hy2 hx hi hn
    obtain ⟨n, rfl⟩ : ∃ m, n = m + 1 + 1 := ⟨n - 2, by omega⟩
    rw [f_X3_gcd_L13, zi100, zi0, zi1]
    rw [if_neg (by rw [zi_le (by omega) (by omega) (by omega) (by omega)]; omega)]
    by_cases h0 : y = 0
    · subst h0
      rw [if_pos (show zi ((0 : Nat) : Int) = zi 0 from rfl), Nat.gcd_zero_right]
    have hr : x % y < y := Nat.mod_lt _ (by omega)
    rw [if_neg (by rw [zi_eq (by omega) (by omega) (by omega) (by omega)]; omega)]
    simp only [dm_g, dm_let]
    rw [if_pos (by rw [zi_eq (by omega) (by omega) (by omega) (by omega)]; omega), zi_rem (by omega) (by omega) (by omega) (by omega), zi_add]
    have e1 : (x : Int).tmod (y : Int) = ((x % y : Nat) : Int) := by rw [Int.ofNat_tmod]
    have e2 : ((i : Int) + 1) = ((i + 1 : Nat) : Int) := by omega
    have eg : Nat.gcd x y = Nat.gcd y (x % y) := by rw [Nat.gcd_comm x y, Nat.gcd_rec, Nat.gcd_comm]
    rw [e1, e2, eg]
    generalize x % y = r at hr
    rw [f_X3_gcd_L13, zi100, zi0, zi1]
    rw [if_neg (by rw [zi_le (by omega) (by omega) (by omega) (by omega)]; omega)]
    by_cases h1 : r = 0
    · subst h1
      rw [if_pos (show zi ((0 : Nat) : Int) = zi 0 from rfl), Nat.gcd_zero_right]
    have hr2 : y % r < r := Nat.mod_lt _ (by omega)
    have hd : r * (y / r) + y % r = y := Nat.div_add_mod y r
    have hp : r ≤ r * (y / r) := Nat.le_mul_of_pos_right r (Nat.div_pos (by omega) (by omega))
    rw [if_neg (by rw [zi_eq (by omega) (by omega) (by omega) (by omega)]; omega)]
    simp only [dm_g, dm_let]
    rw [if_pos (by rw [zi_eq (by omega) (by omega) (by omega) (by omega)]; omega), zi_rem (by omega) (by omega) (by omega) (by omega), zi_add]
    have e1 : (y : Int).tmod (r : Int) = ((y % r : Nat) : Int) := by rw [Int.ofNat_tmod]
    have e2 : (((i + 1 : Nat) : Int) + 1) = ((i + 2 : Nat) : Int) := by omega
    have eg : Nat.gcd y r = Nat.gcd r (y % r) := by rw [Nat.gcd_comm y r, Nat.gcd_rec, Nat.gcd_comm]
    rw [e1, e2, eg]
    have h2k : 2 ^ (k + 1) = 2 * 2 ^ k := by rw [Nat.pow_succ, Nat.mul_comm]
    exact ih _ _ _ _ (by omega) (by omega) (by omega) (by omega) (by omega)
theorem q_abs (a : Int) (h1 : -2147483647 ≤ a) (h2 : a ≤ 2147483647) : (if 0 ≤ zi a then zi a else 0 - zi a) = zi a.natAbs := by
  rw [zi0, zi_sub]
  by_cases h : 0 ≤ a
  · rw [if_pos (by rw [zi_le (by omega) (by omega) (by omega) (by omega)]; omega)]; congr 1; omega
  · rw [if_neg (by rw [zi_le (by omega) (by omega) (by omega) (by omega)]; omega)]; congr 1; omega
theorem q_gcd (a b : Int) (h1 : -2147483647 ≤ a) (h2 : a ≤ 2147483647) (h3 : -2147483647 ≤ b) (h4 : b ≤ 2147483647) : f_X3_gcd (zi a) (zi b) = some (zi (Int.gcd a b)) := by
  rw [f_X3_gcd]
  simp only [dm_let]
  rw [q_abs a h1 h2, q_abs b h3 h4]
  exact q_gcdL 31 b.natAbs a.natAbs 0 100000 (by omega) (by omega) (by omega) (by omega) (by omega)
/-- the reference's -/
theorem q_comL (k : Nat) : ∀ (v u n : Nat), u * v < 2 ^ k → u < 9223372036854775808 → v < 9223372036854775808 → u + v < 9223372036854775808 → k + 1 < n → f_X4_common_L12 n (zj v) (zj u) = some (zj (Nat.gcd u v)) := by
  induction k with
  | zero =>
    intro v u n h hu hv huv hn
    obtain ⟨n, rfl⟩ : ∃ m, n = m + 1 := ⟨n - 1, by omega⟩
    have h0 : u * v = 0 := by simpa using h
    rw [f_X4_common_L12, zj0]
    rcases Nat.mul_eq_zero.mp h0 with rfl | rfl
    · rw [if_pos (show zj ((0 : Nat) : Int) = zj 0 from rfl), zj_add, Nat.gcd_zero_left]; congr 2; omega
    · by_cases h : u = 0
      · subst h; rw [if_pos (show zj ((0 : Nat) : Int) = zj 0 from rfl), zj_add]; rfl
      · rw [if_neg (by rw [zj_eq (by omega) (by omega) (by omega) (by omega)]; omega), if_pos (show zj ((0 : Nat) : Int) = zj 0 from rfl), zj_add, Nat.gcd_zero_right]; rw [show ((u : Int) + ((0 : Nat) : Int)) = (u : Int) by omega]
  | succ k ih =>
    intro v u n h hu hv huv hn
    obtain ⟨n, rfl⟩ : ∃ m, n = m + 1 := ⟨n - 1, by omega⟩
    rw [f_X4_common_L12, zj0]
    by_cases h0 : u = 0
    · subst h0
      rw [if_pos (show zj ((0 : Nat) : Int) = zj 0 from rfl), zj_add, Nat.gcd_zero_left]; congr 2; omega
    rw [if_neg (by rw [zj_eq (by omega) (by omega) (by omega) (by omega)]; omega)]
    by_cases h1 : v = 0
    · subst h1
      rw [if_pos (show zj ((0 : Nat) : Int) = zj 0 from rfl), zj_add, Nat.gcd_zero_right]; rw [show ((u : Int) + ((0 : Nat) : Int)) = (u : Int) by omega]
    rw [if_neg (by rw [zj_eq (by omega) (by omega) (by omega) (by omega)]; omega)]
    have h2k : 2 ^ (k + 1) = 2 * 2 ^ k := by rw [Nat.pow_succ, Nat.mul_comm]
    by_cases hle : u ≤ v
    · rw [if_pos (by rw [zj_le (by omega) (by omega) (by omega) (by omega)]; omega)]
      simp only [dm_g, dm_let]
      rw [if_pos (by rw [zj_eq (by omega) (by omega) (by omega) (by omega)]; omega), zj_rem (by omega) (by omega) (by omega) (by omega)]
      have e1 : (v : Int).tmod (u : Int) = ((v % u : Nat) : Int) := by rw [Int.ofNat_tmod]
      have hr2 : v % u < u := Nat.mod_lt _ (by omega)
      have hd : u * (v / u) + v % u = v := Nat.div_add_mod v u
      have hp : u ≤ u * (v / u) := Nat.le_mul_of_pos_right u (Nat.div_pos (by omega) (by omega))
      have hh : u * (2 * (v % u)) ≤ u * v := Nat.mul_le_mul_left u (by omega)
      have hl : u * (2 * (v % u)) = 2 * (u * (v % u)) := by rw [Nat.mul_left_comm]
      have eg : Nat.gcd u v = Nat.gcd u (v % u) := by rw [Nat.gcd_rec, Nat.gcd_comm]
      rw [e1, eg]
      exact ih _ _ _ (by omega) (by omega) (by omega) (by omega) (by omega)
    · rw [if_neg (by rw [zj_le (by omega) (by omega) (by omega) (by omega)]; omega)]
      simp only [dm_g, dm_let]
      rw [if_pos (by rw [zj_eq (by omega) (by omega) (by omega) (by omega)]; omega), zj_rem (by omega) (by omega) (by omega) (by omega)]
      have e1 : (u : Int).tmod (v : Int) = ((u % v : Nat) : Int) := by rw [Int.ofNat_tmod]
      have hr2 : u % v < v := Nat.mod_lt _ (by omega)
      have hd : v * (u / v) + u % v = u := Nat.div_add_mod u v
      have hp : v ≤ v * (u / v) := Nat.le_mul_of_pos_right v (Nat.div_pos (by omega) (by omega))
      have hh : (2 * (u % v)) * v ≤ u * v := Nat.mul_le_mul_right v (by omega)
      have hl : (2 * (u % v)) * v = 2 * ((u % v) * v) := by rw [Nat.mul_assoc]
      have eg : Nat.gcd u v = Nat.gcd (u % v) v := by rw [Nat.gcd_comm u v, Nat.gcd_rec]
      rw [e1, eg]
      exact ih _ _ _ (by omega) (by omega) (by omega) (by omega) (by omega)
theorem q_size (a : Int) (h1 : -9223372036854775807 ≤ a) (h2 : a ≤ 9223372036854775807) : f_X4_size (zj a) = some (zj a.natAbs) := by
  rw [f_X4_size, zj0, zj_neg]
  by_cases h : 0 ≤ a
  · rw [if_pos (by rw [zj_le (by omega) (by omega) (by omega) (by omega)]; omega)]; congr 2; omega
  · rw [if_neg (by rw [zj_le (by omega) (by omega) (by omega) (by omega)]; omega)]; congr 2; omega
theorem q_com (a b : Int) (h1 : a.natAbs < 2 ^ 40) (h3 : b.natAbs < 2 ^ 40) : f_X4_common (zj a) (zj b) = some (zj (Int.gcd a b)) := by
  rw [f_X4_common, q_size a (by omega) (by omega), q_size b (by omega) (by omega)]
  have h80 : a.natAbs * b.natAbs < 2 ^ 80 := by
    have := Nat.mul_lt_mul'' h1 h3
    omega
  exact q_comL 80 b.natAbs a.natAbs 100000 h80 (by omega) (by omega) (by omega) (by omega)
