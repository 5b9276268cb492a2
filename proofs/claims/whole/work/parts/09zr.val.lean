/-! The loops over the rows and over the box. -/
theorem bX_small (D a b c n : Int) (H : fH D a b c) (X Y : Nat) (B : bX D a c n X Y) : 3 * ((Y : Int) * Y) ≤ 4 * n := by
  obtain ⟨ha, ha', hb, hb', hc, hc', hD, hD0, hD2, h3a, h3c⟩ := H
  obtain ⟨bx, bY, bY2, bx4, bY4⟩ := B
  have h := Int.mul_le_mul_of_nonneg_right h3a (sq_nn (Y : Int))
  have e1 : 3 * a * ((Y : Int) * Y) = a * (3 * ((Y : Int) * Y)) := by rw [Int.mul_comm 3 a, Int.mul_assoc]
  have e2 : 4 * a * n = a * (4 * n) := by rw [Int.mul_comm 4 a, Int.mul_assoc]
  exact Int.le_of_mul_le_mul_left (show a * (3 * ((Y : Int) * Y)) ≤ a * (4 * n) by omega) ha
theorem bX_le (D a b c n : Int) (H : fH D a b c) (X Y : Nat) (B : bX D a c n X Y) (hn : 0 ≤ n) : (Y : Int) ≤ n := by
  have h := bX_small D a b c n H X Y B
  rcases (show (Y : Int) ≤ n ∨ n + 1 ≤ (Y : Int) by omega) with g | g
  · exact g
  · have h2 := Int.mul_le_mul g (Int.le_refl (Y : Int)) (by omega) (by omega)
    have h3 := Int.mul_le_mul_of_nonneg_left g (show 0 ≤ n + 1 by omega)
    have e : (n + 1) * (n + 1) = n * n + 2 * n + 1 := by grind
    have := sq_nn n
    omega
theorem bX_400 (D a b c n : Int) (H : fH D a b c) (X Y : Nat) (B : bX D a c n X Y) (hn : n ≤ 100000) : Y ≤ 400 := by
  have h := bX_small D a b c n H X Y B
  rcases (show Y ≤ 400 ∨ 401 ≤ Y by omega) with g | g
  · exact g
  · have := Int.mul_self_le_mul_self (show (0 : Int) ≤ 401 by omega) (show (401 : Int) ≤ Y by omega)
    omega
theorem q_cpL (fa fb : Nat → Int32) (k : Nat) (hk : k < 40) (a b c D n : Int) (h1 : fa k = zi a) (h2 : fb k = zi b) (H : fH D a b c) (X Y : Nat) (B : bX D a c n X Y) (hn : 0 ≤ n) (hn' : n ≤ 100000) (p : Nat) (hp : p ≤ 1) (j : Nat) :
    ∀ (y N cnt : Nat), 1 ≤ y → y + j = Y + 1 → j < N → f_X0_countPairs_L16 fa fb (zi D) (zi k) (zi n) (zi p) N (zi y) (zi cnt) = some (zi (cnt + 2 * sm (fun y => sm (fun x => gg a b c n p x y) (-(X : Int)) (2 * X + 1)) y j : Nat)) := by
  have hY1 := bX_le D a b c n H X Y B hn
  have hY2 := bX_400 D a b c n H X Y B hn'
  have HH := H
  have BB := B
  obtain ⟨ha, ha', hb, hb', hc, hc', hD, hD0, hD2, h3a, h3c⟩ := H
  obtain ⟨bx, bY, bY2, bx4, bY4⟩ := B
  have hni : (zi (k : Int)).toNatClampNeg = k := by rw [zi_nat (by omega) (by omega)]; omega
  have hg : ¬ (zi (k : Int) < 0 ∨ 40 ≤ (zi (k : Int)).toNatClampNeg) := by rw [zi0, zi_lt (by omega) (by omega) (by omega) (by omega), hni]; omega
  have han := mulb (show -104 ≤ 4 * a by omega) (show 4 * a ≤ 104 by omega) (show -100000 ≤ n by omega) (show n ≤ 100000 by omega)
  have han0 := Int.mul_nonneg (show 0 ≤ 4 * a by omega) hn
  induction j with
  | zero =>
    intro y N cnt hy hyj hN
    obtain ⟨N, rfl⟩ : ∃ m, N = m + 1 := ⟨N - 1, by omega⟩
    obtain rfl : y = Y + 1 := by omega
    rw [f_X0_countPairs_L16, sm_0, show cnt + 2 * 0 = cnt by omega]
    by_cases c1 : n < ((Y + 1 : Nat) : Int)
    · rw [if_pos (by rw [zi_lt (by omega) (by omega) (by omega) (by omega)]; exact c1)]
    · have hyy : D * ((Y + 1 : Nat) : Int) * ((Y + 1 : Nat) : Int) = -(-D * ((Y + 1 : Int) * (Y + 1))) := by
        rw [Int.mul_assoc, Int.neg_mul, Int.neg_neg]; rfl
      have hb2 := mulb (show -2000 ≤ D by omega) (show D ≤ 2000 by omega) (show -401 ≤ ((Y + 1 : Nat) : Int) by omega) (show ((Y + 1 : Nat) : Int) ≤ 401 by omega)
      have hb3 := mulb (show -802000 ≤ D * ((Y + 1 : Nat) : Int) by omega) (show D * ((Y + 1 : Nat) : Int) ≤ 802000 by omega) (show -401 ≤ ((Y + 1 : Nat) : Int) by omega) (show ((Y + 1 : Nat) : Int) ≤ 401 by omega)
      rw [if_neg (by rw [zi_lt (by omega) (by omega) (by omega) (by omega)]; exact c1), e_g hg, e_let, hni, h1, zi4, zi_mul, zi_mul, zi_mul, zi_mul, zi_add, zi0, if_neg (by rw [zi_le (by omega) (by omega) (by omega) (by omega)]; omega)]
  | succ j ih =>
    intro y N cnt hy hyj hN
    obtain ⟨N, rfl⟩ : ∃ m, N = m + 1 := ⟨N - 1, by omega⟩
    have hyy : D * (y : Int) * (y : Int) = D * ((y : Int) * y) := Int.mul_assoc _ _ _
    have hsq : (y : Int) * y ≤ (Y : Int) * Y := Int.mul_self_le_mul_self (by omega) (by omega)
    have hsq2 := Int.mul_le_mul_of_nonneg_left hsq (show 0 ≤ -D by omega)
    have e2 : -D * ((y : Int) * y) = -(D * ((y : Int) * y)) := Int.neg_mul _ _
    have hyn := sq_nn (y : Int)
    have hyn2 := Int.mul_nonneg (show 0 ≤ -D by omega) hyn
    have R := q_row fa fb k hk a b c D n h1 h2 HH X Y BB y (by omega) (by omega) (by omega) (by omega) p hp
    rw [f_X0_countPairs_L16, if_neg (by rw [zi_lt (by omega) (by omega) (by omega) (by omega)]; omega), e_g hg, e_let, hni, h1, zi4, zi_mul, zi_mul, zi_mul, zi_mul, zi_add, hyy, if_pos (by rw [zi0, zi_le (by omega) (by omega) (by omega) (by omega)]; omega), R, e_b1, if_neg (by rw [zi0, zi_eq (by omega) (by omega) (by omega) (by omega)]; omega), e_let, e_let, zi2, zi_mul, zi_add, w_s]
    have := ih (y + 1) N (cnt + 2 * sm (fun x => gg a b c n p x y) (-(X : Int)) (2 * X + 1)) (by omega) (by omega) (by omega)
    rw [sm_s (fun y => sm (fun x => gg a b c n p x y) (-(X : Int)) (2 * X + 1)) y j, show (cnt : Int) + 2 * ((sm (fun x => gg a b c n p x y) (-(X : Int)) (2 * X + 1) : Nat) : Int) = ((cnt + 2 * sm (fun x => gg a b c n p x y) (-(X : Int)) (2 * X + 1) : Nat) : Int) by omega]
    rw [show cnt + 2 * (sm (fun x => gg a b c n p x y) (-(X : Int)) (2 * X + 1) + sm (fun y => sm (fun x => gg a b c n p x y) (-(X : Int)) (2 * X + 1)) ((y : Int) + 1) j) = cnt + 2 * sm (fun x => gg a b c n p x y) (-(X : Int)) (2 * X + 1) + 2 * sm (fun y => sm (fun x => gg a b c n p x y) (-(X : Int)) (2 * X + 1)) ((y : Int) + 1) j by omega]
    exact this
/-- the number of pairs in the box -/
def nn (a b c n : Int) (p : Nat) (X Y : Nat) : Nat := sm (fun x => sm (fun y => gg a b c n p x y) (-(Y : Int)) (2 * Y + 1)) (-(X : Int)) (2 * X + 1)
theorem nn_eq (a b c n : Int) (p : Nat) (X Y : Nat) : nn a b c n p X Y = sm (fun x => gg a b c n p x 0) (-(X : Int)) (2 * X + 1) + 2 * sm (fun y => sm (fun x => gg a b c n p x y) (-(X : Int)) (2 * X + 1)) 1 Y := by
  unfold nn
  refine (sm_swap (fun x y => gg a b c n p x y) (-(Y : Int)) (2 * Y + 1) (2 * X + 1) (-(X : Int))).trans ?_
  refine sm_sym (fun y => sm (fun x => gg a b c n p x y) (-(X : Int)) (2 * X + 1)) (fun y => ?_) Y
  have e := sm_neg (fun x => gg a b c n p x (-y)) (2 * X + 1) (-(X : Int))
  rw [show 1 - -(X : Int) - ((2 * X + 1 : Nat) : Int) = -(X : Int) by omega] at e
  show sm (fun x => gg a b c n p x (-y)) (-(X : Int)) (2 * X + 1) = sm (fun x => gg a b c n p x y) (-(X : Int)) (2 * X + 1)
  rw [← e]
  exact sm_ext _ _ (fun x _ _ => gg_neg a b c n p x y)
theorem q_cp (fa fb : Nat → Int32) (k : Nat) (hk : k < 40) (a b c D n : Int) (h1 : fa k = zi a) (h2 : fb k = zi b) (H : fH D a b c) (X Y : Nat) (B : bX D a c n X Y) (hn : 0 ≤ n) (hn' : n ≤ 100000) (p : Nat) (hp : p ≤ 1) (M : Nat) (hM : 4002 < M) :
    f_X0_countPairs_L16 fa fb (zi D) (zi k) (zi n) (zi p) M (zi 0) (zi 0) = some (zi (nn a b c n p X Y : Nat)) := by
  have HH := H
  have BB := B
  have L := q_cpL fa fb k hk a b c D n h1 h2 H X Y B hn hn' p hp
  obtain ⟨ha, ha', hb, hb', hc, hc', hD, hD0, hD2, h3a, h3c⟩ := H
  obtain ⟨bx, bY, bY2, bx4, bY4⟩ := B
  obtain ⟨N, rfl⟩ : ∃ m, M = m + 1 := ⟨M - 1, by omega⟩
  have hni : (zi (k : Int)).toNatClampNeg = k := by rw [zi_nat (by omega) (by omega)]; omega
  have hg : ¬ (zi (k : Int) < 0 ∨ 40 ≤ (zi (k : Int)).toNatClampNeg) := by rw [zi0, zi_lt (by omega) (by omega) (by omega) (by omega), hni]; omega
  have han := mulb (show -104 ≤ 4 * a by omega) (show 4 * a ≤ 104 by omega) (show -100000 ≤ n by omega) (show n ≤ 100000 by omega)
  have han0 := Int.mul_nonneg (show 0 ≤ 4 * a by omega) hn
  have R := q_row fa fb k hk a b c D n h1 h2 HH X Y BB 0 (by omega) (by omega) (by omega) (by omega) p hp
  have L := L Y 1 N (0 + sm (fun x => gg a b c n p x 0) (-(X : Int)) (2 * X + 1)) (by omega) (by omega) (by omega)
  rw [f_X0_countPairs_L16, if_neg (by rw [zi_lt (by omega) (by omega) (by omega) (by omega)]; omega), e_g hg, e_let, hni, h1, zi4, zi_mul, zi_mul, zi_mul, zi_mul, zi_add, show D * 0 * 0 = D * (0 * 0) by omega, if_pos (by rw [zi0, zi_le (by omega) (by omega) (by omega) (by omega)]; omega), R, e_b1, if_pos (show zi 0 = 0 from rfl), e_let, e_let, zi_add, zi1, zi_add, nn_eq]
  rw [show 0 + sm (fun x => gg a b c n p x 0) (-(X : Int)) (2 * X + 1) = sm (fun x => gg a b c n p x 0) (-(X : Int)) (2 * X + 1) by omega] at L
  rw [show (0 : Int) + ((sm (fun x => gg a b c n p x 0) (-(X : Int)) (2 * X + 1) : Nat) : Int) = ((sm (fun x => gg a b c n p x 0) (-(X : Int)) (2 * X + 1) : Nat) : Int) by omega]
  exact L
/-- the reference's reach -/
theorem q_reachL (D o n : Int) (hD : -2000 ≤ D) (hD0 : D < 0) (ho : 0 < o) (ho' : o ≤ 700) (h3 : 3 * o ≤ -D) (hn : 0 ≤ n) (hn' : n ≤ 8000000) (j : Nat) :
    ∀ (f N : Nat), f + j = 4000 → j < N → -D * ((f : Int) * f) ≤ 4 * o * n → ∃ X : Nat, X ≤ 4000 ∧ f_X4_reach_L3 (zi D) (zj o) (zj n) N (zj f) = some (zj X) ∧ 4 * o * n < -D * ((X + 1 : Int) * (X + 1)) ∧ -D * ((X : Int) * X) ≤ 4 * o * n := by
  have hon := mulb (show -2800 ≤ 4 * o by omega) (show 4 * o ≤ 2800 by omega) (show -8000000 ≤ n by omega) (show n ≤ 8000000 by omega)
  have hon2 := Int.mul_le_mul_of_nonneg_left hn' (show 0 ≤ 4 * o by omega)
  induction j with
  | zero =>
    intro f N hf hN hi
    obtain ⟨N, rfl⟩ : ∃ m, N = m + 1 := ⟨N - 1, by omega⟩
    obtain rfl : f = 4000 := by omega
    have e : (((4000 : Nat) : Int) + 1) * (((4000 : Nat) : Int) + 1) = 16008001 := by decide
    have hc : 4 * o * n < -D * (((4000 : Nat) : Int) + 1) * (((4000 : Nat) : Int) + 1) := by
      rw [Int.mul_assoc (-D), e]; omega
    refine ⟨4000, by omega, ?_, by rw [← Int.mul_assoc]; exact hc, hi⟩
    have hc2 : -D * (((4000 : Nat) : Int) + 1) * (((4000 : Nat) : Int) + 1) ≤ 2000 * 16008001 := by
      rw [Int.mul_assoc (-D), e]; omega
    rw [f_X4_reach_L3, zi_neg, zi_zj (by omega) (by omega), zj4, zj1, zj_add, zj_mul, zj_mul, zj_mul, zj_mul, if_pos (by rw [zj_lt (by omega) (by omega) (by omega) (by omega)]; exact hc)]
  | succ j ih =>
    intro f N hf hN hi
    obtain ⟨N, rfl⟩ : ∃ m, N = m + 1 := ⟨N - 1, by omega⟩
    have hb2 := mulb (show -2000 ≤ -D by omega) (show -D ≤ 2000 by omega) (show -4001 ≤ (f : Int) + 1 by omega) (show (f : Int) + 1 ≤ 4001 by omega)
    have hb3 := mulb (show -8002000 ≤ -D * ((f : Int) + 1) by omega) (show -D * ((f : Int) + 1) ≤ 8002000 by omega) (show -4001 ≤ (f : Int) + 1 by omega) (show (f : Int) + 1 ≤ 4001 by omega)
    by_cases hc : 4 * o * n < -D * ((f : Int) + 1) * ((f : Int) + 1)
    · refine ⟨f, by omega, ?_, by rw [← Int.mul_assoc]; exact hc, hi⟩
      rw [f_X4_reach_L3, zi_neg, zi_zj (by omega) (by omega), zj4, zj1, zj_add, zj_mul, zj_mul, zj_mul, zj_mul, if_pos (by rw [zj_lt (by omega) (by omega) (by omega) (by omega)]; exact hc)]
    · obtain ⟨X, x1, x2, x3, x4⟩ := ih (f + 1) N (by omega) (by omega) (by rw [show ((f + 1 : Nat) : Int) = (f : Int) + 1 from rfl, ← Int.mul_assoc]; omega)
      refine ⟨X, x1, ?_, x3, x4⟩
      rw [f_X4_reach_L3, zi_neg, zi_zj (by omega) (by omega), zj4, zj1, zj_add, zj_mul, zj_mul, zj_mul, zj_mul, if_neg (by rw [zj_lt (by omega) (by omega) (by omega) (by omega)]; exact hc), e_let]
      exact x2
theorem q_reach (D o n : Int) (hD : -2000 ≤ D) (hD0 : D < 0) (ho : 0 < o) (ho' : o ≤ 700) (h3 : 3 * o ≤ -D) (hn : 0 ≤ n) (hn' : n ≤ 8000000) : ∃ X : Nat, X ≤ 4000 ∧ f_X4_reach (zi D) (zj o) (zj n) = some (zj X) ∧ 4 * o * n < -D * ((X + 1 : Int) * (X + 1)) ∧ -D * ((X : Int) * X) ≤ 4 * o * n := by
  have h0 := Int.mul_nonneg (show 0 ≤ 4 * o by omega) hn
  obtain ⟨X, h⟩ := q_reachL D o n hD hD0 ho ho' h3 hn hn' 4000 0 100000 (by omega) (by omega) (by rw [show -D * (((0 : Nat) : Int) * ((0 : Nat) : Int)) = 0 by rw [show (((0 : Nat) : Int) * ((0 : Nat) : Int)) = 0 from rfl, Int.mul_zero]]; exact h0)
  exact ⟨X, h⟩
theorem vf_b (a b c x y : Int) (ha : -26 ≤ a) (ha' : a ≤ 26) (hb : -26 ≤ b) (hb' : b ≤ 26) (hc : -700 ≤ c) (hc' : c ≤ 700) (hx : -4000 ≤ x) (hx' : x ≤ 4000) (hy : -4000 ≤ y) (hy' : y ≤ 4000) : -20000000000 ≤ vf a b c x y ∧ vf a b c x y ≤ 20000000000 := by
  unfold vf
  obtain ⟨p1, p2⟩ := mulb (show -26 ≤ a by omega) (show a ≤ 26 by omega) hx hx'
  obtain ⟨p3, p4⟩ := mulb (show -104000 ≤ a * x by omega) (show a * x ≤ 104000 by omega) hx hx'
  obtain ⟨p5, p6⟩ := mulb (show -26 ≤ b by omega) (show b ≤ 26 by omega) hx hx'
  obtain ⟨p7, p8⟩ := mulb (show -104000 ≤ b * x by omega) (show b * x ≤ 104000 by omega) hy hy'
  obtain ⟨p9, p10⟩ := mulb (show -700 ≤ c by omega) (show c ≤ 700 by omega) hy hy'
  obtain ⟨p11, p12⟩ := mulb (show -2800000 ≤ c * y by omega) (show c * y ≤ 2800000 by omega) hy hy'
  omega
theorem q_at (la lb lc : Nat → Int64) (k : Nat) (hk : k < 40) (a b c : Int) (h1 : la k = zj a) (h2 : lb k = zj b) (h3 : lc k = zj c) (x y : Int) : f_X4_at la lb lc (zi k) (zj x) (zj y) = some (zj (vf a b c x y)) := by
  have hni : (zi (k : Int)).toNatClampNeg = k := by rw [zi_nat (by omega) (by omega)]; omega
  have hg : ¬ (zi (k : Int) < 0 ∨ 40 ≤ (zi (k : Int)).toNatClampNeg) := by rw [zi0, zi_lt (by omega) (by omega) (by omega) (by omega), hni]; omega
  rw [f_X4_at, e_g hg, e_g hg, e_g hg, hni, h1, h2, h3]
  simp only [zj_mul, zj_add]
  rfl
theorem q_comb (x y : Int) (hx : -4000 ≤ x) (hx' : x ≤ 4000) (hy : -4000 ≤ y) (hy' : y ≤ 4000) : f_X4_common (zj x) (zj y) = some (zj (Int.gcd x y : Nat)) ∧ Int.gcd x y ≤ 4000 := by
  refine ⟨q_com x y (by omega) (by omega), ?_⟩
  by_cases h0 : x = 0
  · subst h0; rw [Int.zero_gcd]; omega
  · have := Nat.le_of_dvd (show 0 < x.natAbs by omega) (Int.gcd_dvd_natAbs_left x y); omega
theorem q_v85 (la lb lc : Nat → Int64) (k : Nat) (hk : k < 40) (a b c D n : Int) (h1 : la k = zj a) (h2 : lb k = zj b) (h3 : lc k = zj c) (H : fH D a b c) (Y : Nat) (hY : Y ≤ 4000) (hn : 0 ≤ n) (hn' : n ≤ 100000) (p : Nat) (hp : p ≤ 1) (x : Int) (hx : -4000 ≤ x) (hx' : x ≤ 4000) (K : Int64 → Int32 → Option (Int32 × Int32)) (j : Nat) :
    ∀ (y : Int) (N cnt : Nat), -(Y : Int) ≤ y → y + j = Y + 1 → j < N → f_X4_values_L85 la lb lc (zi k) (zi n) (zi p) (zj Y) (zj x) K N (zj y) (zi cnt) = K (zj (x + 1)) (zi (cnt + sm (fun y => gg a b c n p x y) y j : Nat)) := by
  obtain ⟨ha, ha', hb, hb', hc, hc', hD, hD0, hD2, h3a, h3c⟩ := H
  have c2 : (zi (p : Int) = 0) ↔ p = 0 := by rw [zi0, zi_eq (by omega) (by omega) (by omega) (by omega)]; omega
  induction j with
  | zero =>
    intro y N cnt hy hyj hN
    obtain ⟨N, rfl⟩ : ∃ m, N = m + 1 := ⟨N - 1, by omega⟩
    rw [f_X4_values_L85, if_pos (by rw [zj_lt (by omega) (by omega) (by omega) (by omega)]; omega), h_let, zj1, zj_add, sm_0]
    rfl
  | succ j ih =>
    intro y N cnt hy hyj hN
    obtain ⟨N, rfl⟩ : ∃ m, N = m + 1 := ⟨N - 1, by omega⟩
    have hv := vf_b a b c x y (by omega) (by omega) (by omega) (by omega) (by omega) (by omega) hx hx' (by omega) (by omega)
    obtain ⟨hcom, hgb⟩ := q_comb x y hx hx' (by omega) (by omega)
    have c1 : (zj (vf a b c x y) = zj n) ↔ vf a b c x y = n := by rw [zj_eq (by omega) (by omega) (by omega) (by omega)]
    have c3 : (zj (Int.gcd x y : Nat) = 1) ↔ Int.gcd x y = 1 := by rw [zj1, zj_eq (by omega) (by omega) (by omega) (by omega)]; omega
    have i1 := ih (y + 1) N (cnt + 1) (by omega) (by omega) (by omega)
    have i0 := ih (y + 1) N cnt (by omega) (by omega) (by omega)
    have ey : zj y + 1 = zj (y + 1) := by rw [zj1, zj_add]
    rw [f_X4_values_L85, if_neg (by rw [zj_lt (by omega) (by omega) (by omega) (by omega)]; omega), q_at la lb lc k hk a b c h1 h2 h3 x y, h_b1, zi_zj (by omega) (by omega), sm_s]
    by_cases d1 : vf a b c x y = n
    · rw [if_pos (c1.mpr d1)]
      by_cases d2 : p = 0
      · rw [if_pos (c2.mpr d2), h_let, h_let, ey, w_s, i1]
        rw [show gg a b c n p x y = 1 from if_pos ⟨d1, Or.inl d2⟩, Nat.add_assoc]
      · rw [if_neg (fun h => d2 (c2.mp h)), hcom, h_b1]
        by_cases d3 : Int.gcd x y = 1
        · rw [if_pos (c3.mpr d3), h_let, h_let, ey, w_s, i1]
          rw [show gg a b c n p x y = 1 from if_pos ⟨d1, Or.inr d3⟩, Nat.add_assoc]
        · rw [if_neg (fun h => d3 (c3.mp h)), h_let, ey, i0]
          rw [show gg a b c n p x y = 0 from if_neg (fun h => h.2.elim d2 d3), Nat.zero_add]
    · rw [if_neg (fun h => d1 (c1.mp h)), h_let, ey, i0]
      rw [show gg a b c n p x y = 0 from if_neg (fun h => d1 h.1), Nat.zero_add]
theorem q_v72 (la lb lc : Nat → Int64) (k : Nat) (hk : k < 40) (a b c D n : Int) (h1 : la k = zj a) (h2 : lb k = zj b) (h3 : lc k = zj c) (H : fH D a b c) (X Y : Nat) (hX : X ≤ 4000) (hY : Y ≤ 4000) (hn : 0 ≤ n) (hn' : n ≤ 100000) (p : Nat) (hp : p ≤ 1) (j : Nat) :
    ∀ (x : Int) (N cnt : Nat), -(X : Int) ≤ x → x + j = X + 1 → j < N → f_X4_values_L72 la lb lc (zi k) (zi n) (zi p) (zj X) (zj Y) N (zj x) (zi cnt) = some (zi (cnt + sm (fun x => sm (fun y => gg a b c n p x y) (-(Y : Int)) (2 * Y + 1)) x j : Nat), 0) := by
  induction j with
  | zero =>
    intro x N cnt hx hxj hN
    obtain ⟨N, rfl⟩ : ∃ m, N = m + 1 := ⟨N - 1, by omega⟩
    rw [f_X4_values_L72, if_pos (by rw [zj_lt (by omega) (by omega) (by omega) (by omega)]; omega), sm_0]
    rfl
  | succ j ih =>
    intro x N cnt hx hxj hN
    obtain ⟨N, rfl⟩ : ∃ m, N = m + 1 := ⟨N - 1, by omega⟩
    have I := q_v85 la lb lc k hk a b c D n h1 h2 h3 H Y hY hn hn' p hp x (by omega) (by omega) (fun o0 o1 => f_X4_values_L72 la lb lc (zi k) (zi n) (zi p) (zj X) (zj Y) N o0 o1) (2 * Y + 1) (-(Y : Int)) 100000 cnt (by omega) (by omega) (by omega)
    rw [f_X4_values_L72, if_neg (by rw [zj_lt (by omega) (by omega) (by omega) (by omega)]; omega), h_let, zj_neg, I]
    have J := ih (x + 1) N (cnt + sm (fun y => gg a b c n p x y) (-(Y : Int)) (2 * Y + 1)) (by omega) (by omega) (by omega)
    rw [sm_s (fun x => sm (fun y => gg a b c n p x y) (-(Y : Int)) (2 * Y + 1)) x j, ← Nat.add_assoc]
    exact J
