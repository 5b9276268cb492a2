/-! The group, from the table alone. -/
def gR (D : Int) (fa fb fc : Nat → Int32) (la lb lc : Nat → Int64) : Prop := pu_ok D ∧ (pu_list D).length ≤ 40 ∧ hl3 (pu_list D) fa fb fc ∧ hl4 (pu_list D) la lb lc
theorem g1 {D : Int} {fa fb fc : Nat → Int32} {la lb lc : Nat → Int64} (G : gR D fa fb fc la lb lc) (s1 s2 s3 s4 s5 s6 s7 s8 : Int32) (j k : Nat) (hj : j < (pu_list D).length) (hk : k < (pu_list D).length) : ∃ z1 z2 z3 z4 z5 z6 z7 z8 : Int32, f_X0_product fa fb (zi D) (zi ((pu_list D).length)) s1 s2 s3 s4 s5 s6 s7 s8 (zi j) (zi k) = some (zi (gT D j k), z1, z2, z3, z4, z5, z6, z7, z8) := q_prod1 D G.1 G.2.1 fa fb fc G.2.2.1 s1 s2 s3 s4 s5 s6 s7 s8 j k hj hk
theorem g4 {D : Int} {fa fb fc : Nat → Int32} {la lb lc : Nat → Int64} (G : gR D fa fb fc la lb lc) (ta tb tc tp tq tr ts : Int64) (j k : Nat) (hj : j < (pu_list D).length) (hk : k < (pu_list D).length) : ∃ w1 w2 w3 w4 w5 w6 w7 : Int64, f_X4_product (zi D) (zi ((pu_list D).length)) la lb lc ta tb tc tp tq tr ts (zi j) (zi k) = some (zi (gT D j k), w1, w2, w3, w4, w5, w6, w7) := q_prod4 D G.1 G.2.1 la lb lc G.2.2.2 ta tb tc tp tq tr ts j k hj hk
theorem gT_lt {D : Int} {fa fb fc : Nat → Int32} {la lb lc : Nat → Int64} (G : gR D fa fb fc la lb lc) (j k : Nat) (hj : j < (pu_list D).length) (hk : k < (pu_list D).length) : gT D j k < (pu_list D).length := (g_facts D G.1 G.2.1).1 j k hj hk
/-- powers -/
noncomputable def pw (D : Int) (k : Nat) : Nat → Nat
  | 0 => 0
  | n + 1 => gT D (pw D k n) k
theorem pw_lt {D : Int} {fa fb fc : Nat → Int32} {la lb lc : Nat → Int64} (G : gR D fa fb fc la lb lc) (k : Nat) (hk : k < (pu_list D).length) (n : Nat) : pw D k n < (pu_list D).length := by
  induction n with
  | zero => show 0 < (pu_list D).length; omega
  | succ n ih => exact gT_lt G _ _ ih hk
theorem pw_one {D : Int} {fa fb fc : Nat → Int32} {la lb lc : Nat → Int64} (G : gR D fa fb fc la lb lc) (k : Nat) (hk : k < (pu_list D).length) : pw D k 1 = k := ((g_facts D G.1 G.2.1).2.1 k hk).1
theorem ordN_succ (T : List (List Nat)) (k n x i : Nat) : ordN T k (n + 1) x i = cond (Nat.beq x 0) i (ordN T k n (atN T x k) (i + 1)) := by
  have e : ordN T k (n + 1) x i = cond (Nat.beq x 0) i (nst (atN T x k) fun y => nst (Nat.succ i) fun i => ordN T k n y i) := rfl
  rw [e, nst_eq, nst_eq]
theorem ordN_sp (D : Int) (k n : Nat) : ∀ i o, ordN (gTab D) k n (pw D k i) i = o → o ≠ 0 → i ≤ o ∧ o < i + n ∧ pw D k o = 0 ∧ ∀ m, i ≤ m → m < o → pw D k m ≠ 0 := by
  induction n with
  | zero => intro i o h ho; exact absurd h.symm ho
  | succ n ih =>
    intro i o h ho
    rw [ordN_succ] at h
    cases hb : Nat.beq (pw D k i) 0
    · rw [hb] at h
      have h : ordN (gTab D) k n (pw D k (i + 1)) (i + 1) = o := h
      obtain ⟨h1, h2, h3, h4⟩ := ih (i + 1) o h ho
      refine ⟨by omega, by omega, h3, fun m m1 m2 => ?_⟩
      rcases Nat.lt_or_ge i m with g | g
      · exact h4 m g m2
      · obtain rfl : m = i := by omega
        exact Nat.ne_of_beq_eq_false hb
    · rw [hb] at h
      have h : i = o := h
      subst h
      exact ⟨Nat.le_refl _, by omega, Nat.eq_of_beq_eq_true hb, fun m m1 m2 => by omega⟩
/-- the order -/
theorem g_ord {D : Int} {fa fb fc : Nat → Int32} {la lb lc : Nat → Int64} (G : gR D fa fb fc la lb lc) (k : Nat) (hk : k < (pu_list D).length) : ∃ o, 1 ≤ o ∧ o ≤ (pu_list D).length ∧ pw D k o = 0 ∧ (∀ m, 1 ≤ m → m < o → pw D k m ≠ 0) ∧ (pu_list D).length % o = 0 := by
  obtain ⟨h1, h2⟩ := (g_facts D G.1 G.2.1).2.2.2.1 k hk
  have e : ordN (gTab D) k ((pu_list D).length) (pw D k 1) 1 = ordN (gTab D) k ((pu_list D).length) k 1 := by rw [pw_one G k hk]
  obtain ⟨q1, q2, q3, q4⟩ := ordN_sp D k ((pu_list D).length) 1 _ e h1
  exact ⟨_, q1, by omega, q3, q4, h2⟩
theorem pw_per (D : Int) (k o : Nat) (h : pw D k o = 0) (i : Nat) : pw D k (o + i) = pw D k i := by
  induction i with
  | zero => exact h
  | succ i ih => show gT D (pw D k (o + i)) k = gT D (pw D k i) k; rw [ih]
theorem pw_mod (D : Int) (k o : Nat) (ho : 0 < o) (h : pw D k o = 0) (n : Nat) : pw D k n = pw D k (n % o) := by
  have : ∀ q r, pw D k (o * q + r) = pw D k r := by
    intro q
    induction q with
    | zero => intro r; rw [Nat.mul_zero, Nat.zero_add]
    | succ q ih => intro r; rw [Nat.mul_succ, Nat.add_right_comm, Nat.add_comm, pw_per D k o h, ih]
  rw [← this (n / o) (n % o), Nat.div_add_mod]
/-- the class's power -/
theorem q_raisL {D : Int} {fa fb fc : Nat → Int32} {la lb lc : Nat → Int64} (G : gR D fa fb fc la lb lc) (k n : Nat) (hk : k < (pu_list D).length) (hn : n ≤ 1000) (j : Nat) : ∀ (i N : Nat) (z1 z2 z3 z4 z5 z6 z7 z8 : Int32), i + j = n → j < N → ∃ y1 y2 y3 y4 y5 y6 y7 y8 : Int32, f_X0_raised_L24 fa fb (zi D) (zi ((pu_list D).length)) (zi k) (zi n) N (zi i) (zi (pw D k i)) z1 z2 z3 z4 z5 z6 z7 z8 = some (zi (pw D k n), y1, y2, y3, y4, y5, y6, y7, y8) := by
  induction j with
  | zero =>
    intro i N z1 z2 z3 z4 z5 z6 z7 z8 hi hN
    obtain ⟨N, rfl⟩ : ∃ m, N = m + 1 := ⟨N - 1, by omega⟩
    obtain rfl : i = n := by omega
    refine ⟨z1, z2, z3, z4, z5, z6, z7, z8, ?_⟩
    rw [f_X0_raised_L24, if_pos (by rw [zi_le (by omega) (by omega) (by omega) (by omega)]; omega)]
  | succ j ih =>
    intro i N z1 z2 z3 z4 z5 z6 z7 z8 hi hN
    obtain ⟨N, rfl⟩ : ∃ m, N = m + 1 := ⟨N - 1, by omega⟩
    obtain ⟨x1, x2, x3, x4, x5, x6, x7, x8, hp⟩ := g1 G z1 z2 z3 z4 z5 z6 z7 z8 (pw D k i) k (pw_lt G k hk i) hk
    obtain ⟨y1, y2, y3, y4, y5, y6, y7, y8, hr⟩ := ih (i + 1) N x1 x2 x3 x4 x5 x6 x7 x8 (by omega) (by omega)
    refine ⟨y1, y2, y3, y4, y5, y6, y7, y8, ?_⟩
    rw [f_X0_raised_L24, if_neg (by rw [zi_le (by omega) (by omega) (by omega) (by omega)]; omega), hp, e_b9, e_let, zi1, zi_add]
    exact hr
theorem q_rais {D : Int} {fa fb fc : Nat → Int32} {la lb lc : Nat → Int64} (G : gR D fa fb fc la lb lc) (k : Nat) (hk : k < (pu_list D).length) (n : Int) (hn1 : -2147483648 ≤ n) (hn2 : n ≤ 2147483647) (z1 z2 z3 z4 z5 z6 z7 z8 : Int32) : ∃ y1 y2 y3 y4 y5 y6 y7 y8 : Int32, f_X0_raised fa fb (zi D) (zi ((pu_list D).length)) z1 z2 z3 z4 z5 z6 z7 z8 (zi k) (zi n) = some (zi (pw D k (n % (pu_list D).length).toNat), y1, y2, y3, y4, y5, y6, y7, y8) := by
  have h40 := G.2.1
  have m1 := Int.emod_nonneg n (show ((pu_list D).length : Int) ≠ 0 by omega)
  have m2 := Int.emod_lt_of_pos n (show 0 < ((pu_list D).length : Int) by omega)
  have h := q_raisL G k (n % (pu_list D).length).toNat hk (by omega) (n % (pu_list D).length).toNat 0 100000 z1 z2 z3 z4 z5 z6 z7 z8 (by omega) (by omega)
  rw [f_X0_raised, if_neg (by rw [zi0, zi_eq (by omega) (by omega) (by omega) (by omega)]; omega), q_fmod n ((pu_list D).length) hn1 hn2 (by omega) (by omega), e_b1]
  rw [show (((n % (pu_list D).length).toNat : Nat) : Int) = n % (pu_list D).length by omega] at h
  exact h
/-- the order, in both -/
theorem q_ordL {D : Int} {fa fb fc : Nat → Int32} {la lb lc : Nat → Int64} (G : gR D fa fb fc la lb lc) (k o : Nat) (hk : k < (pu_list D).length) (ho : o ≤ (pu_list D).length) (h0 : pw D k o = 0) (hm : ∀ m, 1 ≤ m → m < o → pw D k m ≠ 0) (j : Nat) : ∀ (i N : Nat) (z1 z2 z3 z4 z5 z6 z7 z8 : Int32), 1 ≤ i → i + j = o → j < N → ∃ y1 y2 y3 y4 y5 y6 y7 y8 : Int32, f_X0_orderOf_L4 fa fb (zi D) (zi ((pu_list D).length)) (zi k) N (zi (pw D k i)) (zi i) z1 z2 z3 z4 z5 z6 z7 z8 = some (zi o, y1, y2, y3, y4, y5, y6, y7, y8) := by
  have h40 := G.2.1
  induction j with
  | zero =>
    intro i N z1 z2 z3 z4 z5 z6 z7 z8 h1 hi hN
    obtain ⟨N, rfl⟩ : ∃ m, N = m + 1 := ⟨N - 1, by omega⟩
    obtain rfl : i = o := by omega
    refine ⟨z1, z2, z3, z4, z5, z6, z7, z8, ?_⟩
    rw [f_X0_orderOf_L4, h0, if_pos (show zi ((0 : Nat) : Int) = 0 from rfl)]
  | succ j ih =>
    intro i N z1 z2 z3 z4 z5 z6 z7 z8 h1 hi hN
    obtain ⟨N, rfl⟩ : ∃ m, N = m + 1 := ⟨N - 1, by omega⟩
    have hne := hm i h1 (by omega)
    have hlt := pw_lt G k hk i
    obtain ⟨x1, x2, x3, x4, x5, x6, x7, x8, hp⟩ := g1 G z1 z2 z3 z4 z5 z6 z7 z8 (pw D k i) k hlt hk
    obtain ⟨y1, y2, y3, y4, y5, y6, y7, y8, hr⟩ := ih (i + 1) N x1 x2 x3 x4 x5 x6 x7 x8 (by omega) (by omega) (by omega)
    refine ⟨y1, y2, y3, y4, y5, y6, y7, y8, ?_⟩
    rw [f_X0_orderOf_L4, if_neg (by rw [zi0, zi_eq (by omega) (by omega) (by omega) (by omega)]; omega), if_neg (by rw [zi_le (by omega) (by omega) (by omega) (by omega)]; omega), hp, e_b9, e_let, zi1, zi_add]
    exact hr
theorem q_ordL4 {D : Int} {fa fb fc : Nat → Int32} {la lb lc : Nat → Int64} (G : gR D fa fb fc la lb lc) (k o : Nat) (hk : k < (pu_list D).length) (ho : o ≤ (pu_list D).length) (h0 : pw D k o = 0) (hm : ∀ m, 1 ≤ m → m < o → pw D k m ≠ 0) (j : Nat) : ∀ (i N : Nat) (z1 z2 z3 z4 z5 z6 z7 : Int64), 1 ≤ i → i + j = o → j < N → ∃ y1 y2 y3 y4 y5 y6 y7 : Int64, f_X4_orderOf_L4 (zi D) (zi ((pu_list D).length)) la lb lc (zi k) N (zi (pw D k i)) (zi i) z1 z2 z3 z4 z5 z6 z7 = some (zi o, y1, y2, y3, y4, y5, y6, y7) := by
  have h40 := G.2.1
  induction j with
  | zero =>
    intro i N z1 z2 z3 z4 z5 z6 z7 h1 hi hN
    obtain ⟨N, rfl⟩ : ∃ m, N = m + 1 := ⟨N - 1, by omega⟩
    obtain rfl : i = o := by omega
    refine ⟨z1, z2, z3, z4, z5, z6, z7, ?_⟩
    rw [f_X4_orderOf_L4, h0, if_pos (show zi ((0 : Nat) : Int) = 0 from rfl)]
  | succ j ih =>
    intro i N z1 z2 z3 z4 z5 z6 z7 h1 hi hN
    obtain ⟨N, rfl⟩ : ∃ m, N = m + 1 := ⟨N - 1, by omega⟩
    have hne := hm i h1 (by omega)
    have hlt := pw_lt G k hk i
    obtain ⟨x1, x2, x3, x4, x5, x6, x7, hp⟩ := g4 G z1 z2 z3 z4 z5 z6 z7 (pw D k i) k hlt hk
    obtain ⟨y1, y2, y3, y4, y5, y6, y7, hr⟩ := ih (i + 1) N x1 x2 x3 x4 x5 x6 x7 (by omega) (by omega) (by omega)
    refine ⟨y1, y2, y3, y4, y5, y6, y7, ?_⟩
    rw [f_X4_orderOf_L4, if_neg (by rw [zi0, zi_eq (by omega) (by omega) (by omega) (by omega)]; omega), e_let, hp, e_b8, zi1, zi_add]
    exact hr
theorem q_ord1 {D : Int} {fa fb fc : Nat → Int32} {la lb lc : Nat → Int64} (G : gR D fa fb fc la lb lc) (k o : Nat) (hk : k < (pu_list D).length) (h1 : 1 ≤ o) (ho : o ≤ (pu_list D).length) (h0 : pw D k o = 0) (hm : ∀ m, 1 ≤ m → m < o → pw D k m ≠ 0) (z1 z2 z3 z4 z5 z6 z7 z8 : Int32) : ∃ y1 y2 y3 y4 y5 y6 y7 y8 : Int32, f_X0_orderOf fa fb (zi D) (zi ((pu_list D).length)) z1 z2 z3 z4 z5 z6 z7 z8 (zi k) = some (zi o, y1, y2, y3, y4, y5, y6, y7, y8) := by
  have h40 := G.2.1
  have h := q_ordL G k o hk ho h0 hm (o - 1) 1 100000 z1 z2 z3 z4 z5 z6 z7 z8 (by omega) (by omega) (by omega)
  rw [pw_one G k hk] at h
  exact h
theorem q_ord4 {D : Int} {fa fb fc : Nat → Int32} {la lb lc : Nat → Int64} (G : gR D fa fb fc la lb lc) (k o : Nat) (hk : k < (pu_list D).length) (h1 : 1 ≤ o) (ho : o ≤ (pu_list D).length) (h0 : pw D k o = 0) (hm : ∀ m, 1 ≤ m → m < o → pw D k m ≠ 0) (z1 z2 z3 z4 z5 z6 z7 : Int64) : ∃ y1 y2 y3 y4 y5 y6 y7 : Int64, f_X4_orderOf (zi D) (zi ((pu_list D).length)) la lb lc z1 z2 z3 z4 z5 z6 z7 (zi k) = some (zi o, y1, y2, y3, y4, y5, y6, y7) := by
  have h40 := G.2.1
  have h := q_ordL4 G k o hk ho h0 hm (o - 1) 1 100000 z1 z2 z3 z4 z5 z6 z7 (by omega) (by omega) (by omega)
  rw [pw_one G k hk] at h
  exact h
/-- the reference's power -/
theorem q_raisL4 {D : Int} {fa fb fc : Nat → Int32} {la lb lc : Nat → Int64} (G : gR D fa fb fc la lb lc) (k n : Nat) (hk : k < (pu_list D).length) (hn : n ≤ 1000) (j : Nat) : ∀ (i N : Nat) (z1 z2 z3 z4 z5 z6 z7 : Int64), i + j = n → j < N → ∃ y1 y2 y3 y4 y5 y6 y7 : Int64, f_X4_raised_L21 (zi D) (zi ((pu_list D).length)) la lb lc (zi k) (zi n) N (zi i) (zi (pw D k i)) z1 z2 z3 z4 z5 z6 z7 = some (zi (pw D k n), y1, y2, y3, y4, y5, y6, y7) := by
  induction j with
  | zero =>
    intro i N z1 z2 z3 z4 z5 z6 z7 hi hN
    obtain ⟨N, rfl⟩ : ∃ m, N = m + 1 := ⟨N - 1, by omega⟩
    obtain rfl : i = n := by omega
    refine ⟨z1, z2, z3, z4, z5, z6, z7, ?_⟩
    rw [f_X4_raised_L21, if_pos (by rw [zi_le (by omega) (by omega) (by omega) (by omega)]; omega)]
  | succ j ih =>
    intro i N z1 z2 z3 z4 z5 z6 z7 hi hN
    obtain ⟨N, rfl⟩ : ∃ m, N = m + 1 := ⟨N - 1, by omega⟩
    obtain ⟨x1, x2, x3, x4, x5, x6, x7, hp⟩ := g4 G z1 z2 z3 z4 z5 z6 z7 (pw D k i) k (pw_lt G k hk i) hk
    obtain ⟨y1, y2, y3, y4, y5, y6, y7, hr⟩ := ih (i + 1) N x1 x2 x3 x4 x5 x6 x7 (by omega) (by omega)
    refine ⟨y1, y2, y3, y4, y5, y6, y7, ?_⟩
    rw [f_X4_raised_L21, if_neg (by rw [zi_le (by omega) (by omega) (by omega) (by omega)]; omega), hp, e_b8, e_let, zi1, zi_add]
    exact hr
theorem q_rais4 {D : Int} {fa fb fc : Nat → Int32} {la lb lc : Nat → Int64} (G : gR D fa fb fc la lb lc) (k : Nat) (hk : k < (pu_list D).length) (n : Int) (hn1 : -2147483648 ≤ n) (hn2 : n ≤ 2147483647) (z1 z2 z3 z4 z5 z6 z7 : Int64) : ∃ y1 y2 y3 y4 y5 y6 y7 : Int64, f_X4_raised (zi D) (zi ((pu_list D).length)) la lb lc z1 z2 z3 z4 z5 z6 z7 (zi k) (zi n) = some (zi (pw D k (n % (pu_list D).length).toNat), y1, y2, y3, y4, y5, y6, y7) := by
  have h40 := G.2.1
  obtain ⟨o, o1, o2, o3, o4, o5⟩ := g_ord G k hk
  obtain ⟨x1, x2, x3, x4, x5, x6, x7, hx⟩ := q_ord4 G k o hk o1 o2 o3 o4 z1 z2 z3 z4 z5 z6 z7
  have m1 := Int.emod_nonneg n (show (o : Int) ≠ 0 by omega)
  have m2 := Int.emod_lt_of_pos n (show 0 < (o : Int) by omega)
  have m3 := Int.emod_nonneg n (show ((pu_list D).length : Int) ≠ 0 by omega)
  have hex : pw D k (n % (pu_list D).length).toNat = pw D k (n % o).toNat := by
    rw [pw_mod D k o (by omega) o3 (n % (pu_list D).length).toNat]
    congr 1
    have hd : (o : Int) ∣ ((pu_list D).length : Int) := Int.natCast_dvd_natCast.mpr (Nat.dvd_of_mod_eq_zero o5)
    have e := Int.emod_emod_of_dvd n hd
    have e2 : (((n % (pu_list D).length).toNat % o : Nat) : Int) = ((n % o).toNat : Nat) := by
      rw [Int.natCast_emod, show (((n % (pu_list D).length).toNat : Nat) : Int) = n % (pu_list D).length by omega, e]; omega
    omega
  have hrem : ((zi n - zi n / zi (o : Int) * zi (o : Int)) + zi (o : Int)) - ((zi n - zi n / zi (o : Int) * zi (o : Int)) + zi (o : Int)) / zi (o : Int) * zi (o : Int) = zi (n % o) := by
    rw [zi_rem (by omega) (by omega) (by omega) (by omega), zi_add]
    rcases q_tm n o (by omega) with ⟨h, e1, e2⟩ | ⟨h, e1, e3, e2⟩ | ⟨h, e1, e3, e2⟩
    · rw [e1, zi_rem (by omega) (by omega) (by omega) (by omega), Int.tmod_eq_emod_of_nonneg (by omega), Int.add_emod_right, Int.emod_emod]
    · rw [e1, zi_rem (by omega) (by omega) (by omega) (by omega), Int.tmod_eq_emod_of_nonneg (by omega), e3, Int.add_emod_right]; rfl
    · rw [e1, zi_rem (by omega) (by omega) (by omega) (by omega), Int.tmod_eq_emod_of_nonneg (by omega), show n % (o : Int) - o + o = n % o by omega, Int.emod_emod]
  have ho0 : ¬ zi (o : Int) = 0 := by rw [zi0, zi_eq (by omega) (by omega) (by omega) (by omega)]; omega
  obtain ⟨y1, y2, y3, y4, y5, y6, y7, hr⟩ := q_raisL4 G k (n % o).toNat hk (by omega) (n % o).toNat 0 100000 x1 x2 x3 x4 x5 x6 x7 (by omega) (by omega)
  refine ⟨y1, y2, y3, y4, y5, y6, y7, ?_⟩
  rw [show (((n % o).toNat : Nat) : Int) = n % o by omega] at hr
  rw [f_X4_raised, hx, e_b8, e_g ho0, e_g ho0, hrem, e_let, hex]
  exact hr
/-- the opposite -/
noncomputable def gO (D : Int) (k : Nat) : Nat := oppN (gK D) ((pu_list D).length) k (enc (pu_at D k))
theorem q_opp {D : Int} {fa fb fc : Nat → Int32} {la lb lc : Nat → Int64} (G : gR D fa fb fc la lb lc) (k : Nat) (hk : k < (pu_list D).length) : gO D k < (pu_list D).length ∧ f_X0_opposite fa fb (zi ((pu_list D).length)) (zi k) = some (zi (gO D k)) := by
  obtain ⟨hD, h40, H, _⟩ := G
  obtain ⟨u1, u2, u3, u4, u5, u6, u7, u8⟩ := pu_at_sz D hD k hk
  obtain ⟨e1, e2, e3, e4, e5⟩ := enc_p D hD k hk
  obtain ⟨w1, w2, _⟩ := H k hk
  have w1 : fa k = zi (pu_at D k).1 := w1
  have w2 : fb k = zi (pu_at D k).2.1 := w2
  unfold rd_done at u8
  have hnk : (zi (k : Int)).toNatClampNeg = k := by rw [zi_nat (by omega) (by omega)]; omega
  have hgk : ¬ (zi (k : Int) < 0 ∨ 40 ≤ (zi (k : Int)).toNatClampNeg) := by rw [zi0, zi_lt (by omega) (by omega) (by omega) (by omega), hnk]; omega
  obtain ⟨f1, f2⟩ := q_find D hD fa fb fc H h40 (pu_at D k).1 (-(pu_at D k).2.1) (by omega) (by omega) (by omega) (by omega)
  have hO : gO D k = cond (Nat.ble ((pu_list D).length) (lidx ((pu_at D k).1.toNat * 64 + (2 * (pu_at D k).1.toNat - tt (pu_at D k).1 (pu_at D k).2.1) % (2 * (pu_at D k).1.toNat)) (gK D))) k (lidx ((pu_at D k).1.toNat * 64 + (2 * (pu_at D k).1.toNat - tt (pu_at D k).1 (pu_at D k).2.1) % (2 * (pu_at D k).1.toNat)) (gK D)) := by
    unfold gO oppN
    rw [nst_eq, e1, e2]
    rfl
  obtain ⟨key, hkey⟩ : ∃ key, key = (pu_at D k).1.toNat * 64 + (2 * (pu_at D k).1.toNat - tt (pu_at D k).1 (pu_at D k).2.1) % (2 * (pu_at D k).1.toNat) := ⟨_, rfl⟩
  rw [← hkey] at hO
  have hle := lidx_le key (gK D)
  rw [gK_len D hD] at hle
  -- the key of a place
  have hat : ∀ m, m < (pu_list D).length → ((gK D).getD m 0 = key ↔ ((pu_at D m).1 = (pu_at D k).1 ∧ tt (pu_at D m).1 (pu_at D m).2.1 = (2 * (pu_at D k).1.toNat - tt (pu_at D k).1 (pu_at D k).2.1) % (2 * (pu_at D k).1.toNat))) := by
    intro m hm
    obtain ⟨_, _, _, _, m5⟩ := enc_p D hD m hm
    have msz := pu_at_sz D hD m hm
    have hlt := Nat.mod_lt (2 * (pu_at D k).1.toNat - tt (pu_at D k).1 (pu_at D k).2.1) (show 0 < 2 * (pu_at D k).1.toNat by omega)
    rw [gK_at D hD m hm, hkey]
    omega
  have hf : f_X0_opposite fa fb (zi ((pu_list D).length)) (zi k) = dm_b1 (f_X0_find fa fb (zi ((pu_list D).length)) (zi (pu_at D k).1) (zi (-(pu_at D k).2.1))) fun r3 => if r3 = (-1 : Int32) then some (zi (k : Int)) else some r3 := by
    rw [f_X0_opposite, ((q_has ((pu_list D).length) k (by omega) (by omega) (by omega) (by omega)).1 (by omega)).1, e_b1, if_neg (show ¬ (1 : Int32) = 0 by decide), e_g hgk, e_g hgk, hnk, w1, w2, zi_neg]
  rw [hf]
  by_cases hm : ∃ m, m < (pu_list D).length ∧ (pu_at D m).1 = (pu_at D k).1 ∧ (pu_at D m).2.1 = -(pu_at D k).2.1
  · obtain ⟨m, m0, m1, m2⟩ := hm
    have msz := pu_at_sz D hD m m0
    have ms8 := msz.2.2.2.2.2.2.2
    unfold rd_done at ms8
    have hmk : (gK D).getD m 0 = key := by
      rw [hat m m0]
      refine ⟨m1, ?_⟩
      rw [m1, m2]
      rcases (show (pu_at D k).2.1 < 0 ∨ (pu_at D k).2.1 = 0 ∨ 0 < (pu_at D k).2.1 by omega) with h | h | h
      · have q1 := tt_neg h (by omega) u1
        have q2 := tt_pos (a := (pu_at D k).1) (b := -(pu_at D k).2.1) (by omega) (by omega) u1
        rw [Nat.mod_eq_of_lt (by omega)]; omega
      · have q1 := tt_pos (a := (pu_at D k).1) (b := (pu_at D k).2.1) (by omega) (by omega) u1
        have q2 := tt_pos (a := (pu_at D k).1) (b := -(pu_at D k).2.1) (by omega) (by omega) u1
        rw [show 2 * (pu_at D k).1.toNat - tt (pu_at D k).1 (pu_at D k).2.1 = 2 * (pu_at D k).1.toNat by omega, Nat.mod_self]; omega
      · have q1 := tt_pos (a := (pu_at D k).1) (b := (pu_at D k).2.1) (by omega) (by omega) u1
        have q2 := tt_neg (a := (pu_at D k).1) (b := -(pu_at D k).2.1) (by omega) (by omega) u1
        rw [Nat.mod_eq_of_lt (by omega)]; omega
    have hidx : lidx key (gK D) = m := by
      have hle2 : lidx key (gK D) ≤ m := by
        rcases Nat.lt_or_ge m (lidx key (gK D)) with g | g
        · exact absurd hmk (lidx_bef key (gK D) m g)
        · exact g
      have h3 := lidx_at key (gK D) (by rw [gK_len D hD]; omega)
      have h4 := (hat _ (by omega)).mp h3
      have h5 := (hat m m0).mp hmk
      have bsz := pu_at_sz D hD (lidx key (gK D)) (by omega)
      have bs8 := bsz.2.2.2.2.2.2.2
      unfold rd_done at bs8
      refine pu_at_inj D _ m (by omega) m0 (by omega) ?_
      have t1 := h4.2.trans h5.2.symm
      have ea : (pu_at D (lidx key (gK D))).1 = (pu_at D m).1 := by omega
      rw [ea] at t1 bs8
      generalize (pu_at D (lidx key (gK D))).2.1 = p at *
      generalize (pu_at D m).2.1 = q at *
      rcases (show p < 0 ∨ 0 ≤ p by omega) with hp | hp <;> rcases (show q < 0 ∨ 0 ≤ q by omega) with hq | hq
      · have := tt_neg (a := (pu_at D m).1) hp (by omega) (by omega); have := tt_neg (a := (pu_at D m).1) hq (by omega) (by omega); omega
      · have := tt_neg (a := (pu_at D m).1) hp (by omega) (by omega); have := tt_pos (a := (pu_at D m).1) hq (by omega) (by omega); omega
      · have := tt_pos (a := (pu_at D m).1) hp (by omega) (by omega); have := tt_neg (a := (pu_at D m).1) hq (by omega) (by omega); omega
      · have := tt_pos (a := (pu_at D m).1) hp (by omega) (by omega); have := tt_pos (a := (pu_at D m).1) hq (by omega) (by omega); omega
    rw [hidx, show Nat.ble ((pu_list D).length) m = false by rw [← Bool.not_eq_true, Nat.ble_eq]; omega] at hO
    have hO : gO D k = m := hO
    refine ⟨by omega, ?_⟩
    rw [f1 m m0 m1 m2, e_b1, zim1, if_neg (by rw [zi_eq (by omega) (by omega) (by omega) (by omega)]; omega), hO]
  · have hres : gO D k = k := by
      by_cases hba : (pu_at D k).2.1 = (pu_at D k).1
      · -- its own key
        have q1 := tt_pos (a := (pu_at D k).1) (b := (pu_at D k).2.1) (by omega) (by omega) u1
        have hkk : (gK D).getD k 0 = key := by
          rw [hat k hk]
          refine ⟨rfl, ?_⟩
          rw [Nat.mod_eq_of_lt (by omega)]; omega
        have hle2 : lidx key (gK D) ≤ k := by
          rcases Nat.lt_or_ge k (lidx key (gK D)) with g | g
          · exact absurd hkk (lidx_bef key (gK D) k g)
          · exact g
        have h3 := lidx_at key (gK D) (by rw [gK_len D hD]; omega)
        have h4 := (hat _ (by omega)).mp h3
        have h5 := (hat k hk).mp hkk
        have bsz := pu_at_sz D hD (lidx key (gK D)) (by omega)
        have bs8 := bsz.2.2.2.2.2.2.2
        unfold rd_done at bs8
        have hidx : lidx key (gK D) = k := by
          refine pu_at_inj D _ k (by omega) hk h4.1 ?_
          have t1 := h4.2.trans h5.2.symm
          rw [h4.1] at t1 bs8
          generalize (pu_at D (lidx key (gK D))).2.1 = p at *
          rcases (show p < 0 ∨ 0 ≤ p by omega) with hp | hp
          · have := tt_neg (a := (pu_at D k).1) hp (by omega) (by omega); omega
          · have := tt_pos (a := (pu_at D k).1) hp (by omega) (by omega); omega
        rw [hidx, show Nat.ble ((pu_list D).length) k = false by rw [← Bool.not_eq_true, Nat.ble_eq]; omega] at hO
        exact hO
      · by_cases hl : lidx key (gK D) < (pu_list D).length
        · exfalso
          have h3 := lidx_at key (gK D) (by rw [gK_len D hD]; omega)
          have h4 := (hat _ hl).mp h3
          have bsz := pu_at_sz D hD (lidx key (gK D)) hl
          have bs8 := bsz.2.2.2.2.2.2.2
          unfold rd_done at bs8
          refine hm ⟨_, hl, h4.1, ?_⟩
          have t1 := h4.2
          rw [h4.1] at t1 bs8
          generalize (pu_at D (lidx key (gK D))).2.1 = p at *
          rcases (show (pu_at D k).2.1 < 0 ∨ (pu_at D k).2.1 = 0 ∨ 0 < (pu_at D k).2.1 by omega) with h | h | h
          · have q1 := tt_neg h (by omega) u1
            rw [Nat.mod_eq_of_lt (by omega)] at t1
            rcases (show p < 0 ∨ 0 ≤ p by omega) with hp | hp
            · have := tt_neg (a := (pu_at D k).1) hp (by omega) (by omega); omega
            · have := tt_pos (a := (pu_at D k).1) hp (by omega) (by omega); omega
          · have q1 := tt_pos (a := (pu_at D k).1) (b := (pu_at D k).2.1) (by omega) (by omega) u1
            rw [show 2 * (pu_at D k).1.toNat - tt (pu_at D k).1 (pu_at D k).2.1 = 2 * (pu_at D k).1.toNat by omega, Nat.mod_self] at t1
            rcases (show p < 0 ∨ 0 ≤ p by omega) with hp | hp
            · have := tt_neg (a := (pu_at D k).1) hp (by omega) (by omega); omega
            · have := tt_pos (a := (pu_at D k).1) hp (by omega) (by omega); omega
          · have q1 := tt_pos (a := (pu_at D k).1) (b := (pu_at D k).2.1) (by omega) (by omega) u1
            rw [Nat.mod_eq_of_lt (by omega)] at t1
            rcases (show p < 0 ∨ 0 ≤ p by omega) with hp | hp
            · have := tt_neg (a := (pu_at D k).1) hp (by omega) (by omega); omega
            · have := tt_pos (a := (pu_at D k).1) hp (by omega) (by omega); omega
        · rw [show Nat.ble ((pu_list D).length) (lidx key (gK D)) = true by rw [Nat.ble_eq]; omega] at hO
          exact hO
    refine ⟨by omega, ?_⟩
    rw [f2 (fun m m0 h => hm ⟨m, m0, h⟩), e_b1, if_pos (show zi (-1) = -1 from rfl), hres]
