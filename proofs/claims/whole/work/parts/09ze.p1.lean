/-! The class's product. -/
theorem mulb {x y A B : Int} (h1 : -A ≤ x) (h2 : x ≤ A) (h3 : -B ≤ y) (h4 : y ≤ B) : -(A * B) ≤ x * y ∧ x * y ≤ A * B := by
  have h := Nat.mul_le_mul (show x.natAbs ≤ A.toNat by omega) (show y.natAbs ≤ B.toNat by omega)
  rw [← Int.natAbs_mul] at h
  have e : ((A.toNat * B.toNat : Nat) : Int) = A * B := by rw [Int.natCast_mul, Int.toNat_of_nonneg (by omega), Int.toNat_of_nonneg (by omega)]
  omega
theorem tm0 (u v : Int) : u.tmod v = 0 ↔ u % v = 0 := by rw [← Int.dvd_iff_tmod_eq_zero, Int.dvd_iff_emod_eq_zero]
theorem midN_succ (d x1 x2 l2 r2 m t M : Nat) : midN d x1 x2 l2 r2 m (t + 1) M = cond (Nat.beq (M % r2) (x2 % r2)) (cond (Nat.beq (((x1 + x2) * M + d - x1 * x2) % m) 0) M (midN d x1 x2 l2 r2 m t (M + l2))) (midN d x1 x2 l2 r2 m t (M + l2)) := by
  have e : midN d x1 x2 l2 r2 m (t + 1) M = cond (Nat.beq (Nat.mod M r2) (Nat.mod x2 r2)) (cond (Nat.beq (Nat.mod (Nat.sub (Nat.add (Nat.mul (Nat.add x1 x2) M) d) (Nat.mul x1 x2)) m) 0) M (nst (Nat.add M l2) (midN d x1 x2 l2 r2 m t))) (nst (Nat.add M l2) (midN d x1 x2 l2 r2 m t)) := rfl
  rw [e, nst_eq]; rfl
theorem b_true {a b : Nat} (h : a = b) : Nat.beq a b = true := by rw [h]; exact Nat.beq_refl b
theorem b_false {a b : Nat} (h : ¬ a = b) : Nat.beq a b = false := by rw [← Bool.not_eq_true, Nat.beq_eq]; exact h
theorem q_midL (b1 b2 D : Int) (l r q d x1 x2 K : Nat) (hD1 : -2000 ≤ D) (hD2 : D ≤ -3) (hd : (d : Int) = -D) (hb1 : -26 ≤ b1) (hb1' : b1 ≤ 26) (hb2 : -26 ≤ b2) (hb2' : b2 ≤ 26) (hl : 1 ≤ l) (hl' : l ≤ 26) (hr : 1 ≤ r) (hr' : r ≤ 26) (hK : K = 2 * q) (hq : 0 < q) (hq' : q ≤ 1000) (hx1 : (x1 : Int) = b1 + K) (hx2 : (x2 : Int) = b2 + K) (j : Nat) :
    ∀ (i N : Nat) (M : Int) (Mp : Nat), i + j = r → j < N → b1 ≤ M → M ≤ 26 + 52 * i → (Mp : Int) = M + K →
      ∃ M' : Int, f_X0_middleOfProduct_L33 (zi l) (zi r) (zi b2) (zi (b1 + b2)) (zi (b1 * b2 + D)) (zi (2 * (K : Int))) N (zi i) (zi M) = some (zi M') ∧ ((midN d x1 x2 (2 * l) (2 * r) (2 * K) j Mp : Nat) : Int) = M' + K ∧ b1 ≤ M' ∧ M' ≤ 26 + 52 * r := by
  induction j with
  | zero =>
    intro i N M Mp hi hN h1 h2 hM
    obtain ⟨N, rfl⟩ : ∃ m, N = m + 1 := ⟨N - 1, by omega⟩
    refine ⟨M, ?_, hM, h1, by omega⟩
    rw [f_X0_middleOfProduct_L33, if_pos (by rw [zi_le (by omega) (by omega) (by omega) (by omega)]; omega)]
  | succ j ih =>
    intro i N M Mp hi hN h1 h2 hM
    obtain ⟨N, rfl⟩ : ∃ m, N = m + 1 := ⟨N - 1, by omega⟩
    obtain ⟨m1, m2⟩ := mulb (show -52 ≤ b1 + b2 by omega) (show b1 + b2 ≤ 52 by omega) (show -2000 ≤ M by omega) (show M ≤ 2000 by omega)
    obtain ⟨m3, m4⟩ := mulb (show -26 ≤ b1 by omega) (show b1 ≤ 26 by omega) (show -26 ≤ b2 by omega) (show b2 ≤ 26 by omega)
    have v1 : f_X3_divides ((2 : Int32) * zi (r : Int)) (zi M - zi b2) = some (if (M - b2) % (2 * (r : Int)) = 0 then 1 else 0) := by
      rw [zi2, zi_mul, zi_sub, q_dvs _ _ (by omega) (by omega) (by omega) (by omega)]
    have v2 : f_X3_divides (zi (2 * (K : Int))) ((zi (b1 + b2) * zi M) - zi (b1 * b2 + D)) = some (if ((b1 + b2) * M - (b1 * b2 + D)) % (2 * (K : Int)) = 0 then 1 else 0) := by
      rw [zi_mul, zi_sub, q_dvs _ _ (by omega) (by omega) (by omega) (by omega)]
    have v3 : zi M + ((2 : Int32) * zi (l : Int)) = zi (M + 2 * l) := by rw [zi2, zi_mul, zi_add]
    have v4 : zi (i : Int) + (1 : Int32) = zi ((i + 1 : Nat) : Int) := by rw [zi1, zi_add]; rfl
    rw [f_X0_middleOfProduct_L33, if_neg (by rw [zi_le (by omega) (by omega) (by omega) (by omega)]; omega), v1, e_b1, v2, e_b1, v3, v4]
    simp only [e_let]
    have c1 : ((M - b2) % (2 * (r : Int)) = 0) ↔ Mp % (2 * r) = x2 % (2 * r) := by
      rw [← Int.ofNat_inj, Int.natCast_emod, Int.natCast_emod, Int.natCast_mul, Int.emod_eq_emod_iff_emod_sub_eq_zero]
      rw [show (Mp : Int) - x2 = M - b2 by omega]
      rfl
    have hle : x1 * x2 ≤ (x1 + x2) * Mp + d := by
      have g1 : x1 * x2 ≤ Mp * x2 := Nat.mul_le_mul_right x2 (by omega)
      have g2 : (x1 + x2) * Mp = x1 * Mp + x2 * Mp := Nat.add_mul _ _ _
      have g3 : Mp * x2 = x2 * Mp := Nat.mul_comm _ _
      omega
    have hcast : (((x1 + x2) * Mp + d - x1 * x2 : Nat) : Int) = ((b1 + b2) * M - (b1 * b2 + D)) + (2 * (K : Int)) * (M + q) := by
      rw [Int.natCast_sub hle, Int.natCast_add, Int.natCast_mul, Int.natCast_mul, Int.natCast_add, hx1, hx2, hM, hd, show (K : Int) = 2 * (q : Int) by omega]
      grind
    have c2 : (((b1 + b2) * M - (b1 * b2 + D)) % (2 * (K : Int)) = 0) ↔ ((x1 + x2) * Mp + d - x1 * x2) % (2 * K) = 0 := by
      rw [← Int.ofNat_inj, Int.natCast_emod, hcast, Int.natCast_mul]
      rw [show ((2 : Nat) : Int) * (K : Int) = 2 * (K : Int) from rfl, Int.add_mul_emod_self_left]
      rfl
    obtain ⟨M', r1, r2, r3, r4⟩ := ih (i + 1) N (M + 2 * l) (Mp + 2 * l) (by omega) (by omega) (by omega) (by omega) (by omega)
    rw [midN_succ]
    by_cases d1 : Mp % (2 * r) = x2 % (2 * r)
    · rw [if_pos (c1.mpr d1), if_neg (show ¬ (1 : Int32) = 0 by decide), b_true d1]
      by_cases d2 : ((x1 + x2) * Mp + d - x1 * x2) % (2 * K) = 0
      · rw [if_pos (c2.mpr d2), if_neg (show ¬ (1 : Int32) = 0 by decide), b_true d2]
        exact ⟨M, rfl, hM, h1, by omega⟩
      · rw [if_neg (fun h => d2 (c2.mp h)), if_pos (show (0 : Int32) = 0 from rfl), b_false d2]
        exact ⟨M', r1, r2, r3, r4⟩
    · rw [if_neg (fun h => d1 (c1.mp h)), if_pos (show (0 : Int32) = 0 from rfl), b_false d1]
      exact ⟨M', r1, r2, r3, r4⟩
theorem q_par (D b1 b2 a1 a2 c1 c2 : Int) (h1 : b1 * b1 - 4 * a1 * c1 = D) (h2 : b2 * b2 - 4 * a2 * c2 = D) : ∃ s, b1 + b2 = 2 * s := by
  have e1 : 4 * a1 * c1 = 4 * (a1 * c1) := Int.mul_assoc _ _ _
  have e2 : 4 * a2 * c2 = 4 * (a2 * c2) := Int.mul_assoc _ _ _
  rcases (show (∃ t, b1 = 2 * t) ∨ (∃ t, b1 = 2 * t + 1) by
    rcases Int.emod_two_eq b1 with h | h
    · left; exact ⟨b1 / 2, by omega⟩
    · right; exact ⟨b1 / 2, by omega⟩) with ⟨t, rfl⟩ | ⟨t, rfl⟩ <;>
  rcases (show (∃ t, b2 = 2 * t) ∨ (∃ t, b2 = 2 * t + 1) by
    rcases Int.emod_two_eq b2 with h | h
    · left; exact ⟨b2 / 2, by omega⟩
    · right; exact ⟨b2 / 2, by omega⟩) with ⟨u, rfl⟩ | ⟨u, rfl⟩
  · exact ⟨t + u, by omega⟩
  · have g1 : 2 * t * (2 * t) = 4 * (t * t) := by grind
    have g2 : (2 * u + 1) * (2 * u + 1) = 4 * (u * u + u) + 1 := by grind
    omega
  · have g1 : 2 * u * (2 * u) = 4 * (u * u) := by grind
    have g2 : (2 * t + 1) * (2 * t + 1) = 4 * (t * t + t) + 1 := by grind
    omega
  · exact ⟨t + u + 1, by omega⟩
theorem upN_eq (K A : Nat) (b : Int) (hA : 0 < A) (h1 : -(A : Int) ≤ b) (h2 : b ≤ A) (hK : 2 * A ≤ K) (hb : b ≠ -(A : Int)) : ((upN K A (tt A b) : Nat) : Int) = b + K := by
  unfold upN
  rcases (show b < 0 ∨ 0 ≤ b by omega) with h | h
  · have e := tt_neg (a := (A : Int)) h h1 (by omega)
    rw [show Nat.ble (tt A b) A = false by rw [← Bool.not_eq_true, Nat.ble_eq]; omega]
    show ((tt A b + K - 2 * A : Nat) : Int) = _
    omega
  · have e := tt_pos (a := (A : Int)) h h2 (by omega)
    rw [show Nat.ble (tt A b) A = true by rw [Nat.ble_eq]; omega]
    show ((tt A b + K : Nat) : Int) = _
    omega
theorem q_prod1 (D : Int) (hD : pu_ok D) (h40 : (pu_list D).length ≤ 40) (fa fb fc : Nat → Int32) (H : hl3 (pu_list D) fa fb fc) (s1 s2 s3 s4 s5 s6 s7 s8 : Int32) (j k : Nat) (hj : j < (pu_list D).length) (hk : k < (pu_list D).length) : ∃ z1 z2 z3 z4 z5 z6 z7 z8 : Int32, f_X0_product fa fb (zi D) (zi (pu_list D).length) s1 s2 s3 s4 s5 s6 s7 s8 (zi j) (zi k) = some (zi (gT D j k), z1, z2, z3, z4, z5, z6, z7, z8) := by
  have hlt := (g_facts D hD h40).1 j k hj hk
  have hkey := (g_prod D hD h40 j k hj hk).1
  have hD' := hD
  unfold pu_ok at hD'
  obtain ⟨u1, u2, u3, u4, u5, u6, u7, u8⟩ := pu_at_sz D hD j hj
  obtain ⟨v1, v2, v3, v4, v5, v6, v7, v8⟩ := pu_at_sz D hD k hk
  have szT := pu_at_sz D hD _ hlt
  obtain ⟨w1, w2, _⟩ := H j hj
  obtain ⟨w3, w4, _⟩ := H k hk
  have w1 : fa j = zi (pu_at D j).1 := w1
  have w2 : fb j = zi (pu_at D j).2.1 := w2
  have w3 : fa k = zi (pu_at D k).1 := w3
  have w4 : fb k = zi (pu_at D k).2.1 := w4
  obtain ⟨s, hs⟩ := q_par D _ _ _ _ _ _ u7 v7
  unfold rd_done at u8 v8
  obtain ⟨A1, hA1⟩ : ∃ A : Nat, (pu_at D j).1 = A := ⟨(pu_at D j).1.toNat, by omega⟩
  obtain ⟨A2, hA2⟩ : ∃ A : Nat, (pu_at D k).1 = A := ⟨(pu_at D k).1.toNat, by omega⟩
  rw [hA1] at u1 u2 u7 u8 w1 hkey
  rw [hA2] at v1 v2 v7 v8 w3 hkey
  generalize (pu_at D j).2.1 = b1 at *
  generalize (pu_at D k).2.1 = b2 at *
  have hni : (zi (j : Int)).toNatClampNeg = j := by rw [zi_nat (by omega) (by omega)]; omega
  have hgj : ¬ (zi (j : Int) < 0 ∨ 40 ≤ (zi (j : Int)).toNatClampNeg) := by rw [zi0, zi_lt (by omega) (by omega) (by omega) (by omega), hni]; omega
  have hnk : (zi (k : Int)).toNatClampNeg = k := by rw [zi_nat (by omega) (by omega)]; omega
  have hgk : ¬ (zi (k : Int) < 0 ∨ 40 ≤ (zi (k : Int)).toNatClampNeg) := by rw [zi0, zi_lt (by omega) (by omega) (by omega) (by omega), hnk]; omega
  have hgj' : ¬ (zi (j : Int) < 0 ∨ 40 ≤ j) := by rw [hni] at hgj; exact hgj
  have hgk' : ¬ (zi (k : Int) < 0 ∨ 40 ≤ k) := by rw [hnk] at hgk; exact hgk
  -- the common divisor
  obtain ⟨e, he⟩ : ∃ e, e = Nat.gcd (Nat.gcd A1 A2) ((tt A1 b1 + tt A2 b2) / 2) := ⟨_, rfl⟩
  have hee : e = Int.gcd ((Nat.gcd A1 A2 : Nat) : Int) s := by
    have ht : ∃ z, (((tt A1 b1 + tt A2 b2) / 2 : Nat) : Int) = s + z ∧ ((Nat.gcd A1 A2 : Nat) : Int) ∣ z := by
      have d1 : ((Nat.gcd A1 A2 : Nat) : Int) ∣ (A1 : Int) := Int.natCast_dvd_natCast.mpr (Nat.gcd_dvd_left A1 A2)
      have d2 : ((Nat.gcd A1 A2 : Nat) : Int) ∣ (A2 : Int) := Int.natCast_dvd_natCast.mpr (Nat.gcd_dvd_right A1 A2)
      rcases (show b1 < 0 ∨ 0 ≤ b1 by omega) with h | h <;> rcases (show b2 < 0 ∨ 0 ≤ b2 by omega) with g | g
      · have t1 := tt_neg (a := (A1 : Int)) h (by omega) (by omega)
        have t2 := tt_neg (a := (A2 : Int)) g (by omega) (by omega)
        exact ⟨A1 + A2, by omega, Int.dvd_add d1 d2⟩
      · have t1 := tt_neg (a := (A1 : Int)) h (by omega) (by omega)
        have t2 := tt_pos (a := (A2 : Int)) g (by omega) (by omega)
        exact ⟨A1, by omega, d1⟩
      · have t1 := tt_pos (a := (A1 : Int)) h (by omega) (by omega)
        have t2 := tt_neg (a := (A2 : Int)) g (by omega) (by omega)
        exact ⟨A2, by omega, d2⟩
      · have t1 := tt_pos (a := (A1 : Int)) h (by omega) (by omega)
        have t2 := tt_pos (a := (A2 : Int)) g (by omega) (by omega)
        exact ⟨0, by omega, Int.dvd_zero _⟩
    obtain ⟨z, hz1, hz2⟩ := ht
    rw [← Int.gcd_add_right_right_of_dvd s hz2, ← hz1]
    exact he
  have hgpos : 0 < Nat.gcd A1 A2 := Nat.gcd_pos_of_pos_left A2 (by omega)
  have hepos : 0 < e := by rw [he]; exact Nat.gcd_pos_of_pos_left _ hgpos
  have hd1 : e ∣ A1 := by rw [he]; exact Nat.dvd_trans (Nat.gcd_dvd_left _ _) (Nat.gcd_dvd_left A1 A2)
  have hd2 : e ∣ A2 := by rw [he]; exact Nat.dvd_trans (Nat.gcd_dvd_left _ _) (Nat.gcd_dvd_right A1 A2)
  have hgle : Nat.gcd A1 A2 ≤ A1 := Nat.le_of_dvd (by omega) (Nat.gcd_dvd_left A1 A2)
  have hele : e ≤ A1 := Nat.le_of_dvd (by omega) hd1
  obtain ⟨l, hl⟩ : ∃ l, l = A1 / e := ⟨_, rfl⟩
  obtain ⟨r, hr⟩ : ∃ r, r = A2 / e := ⟨_, rfl⟩
  have hl1 : A1 = l * e := by rw [hl]; exact (Nat.div_mul_cancel hd1).symm
  have hr1 : A2 = r * e := by rw [hr]; exact (Nat.div_mul_cancel hd2).symm
  have hlp : 0 < l := by rw [hl]; exact Nat.div_pos hele hepos
  have hrp : 0 < r := by rw [hr]; exact Nat.div_pos (Nat.le_of_dvd (by omega) hd2) hepos
  have hlA : l ≤ A1 := by rw [hl]; exact Nat.div_le_self _ _
  have hrA : r ≤ A2 := by rw [hr]; exact Nat.div_le_self _ _
  obtain ⟨F, hF⟩ : ∃ F, F = l * r := ⟨_, rfl⟩
  have hFp : 0 < F := by rw [hF]; exact Nat.mul_pos hlp hrp
  have hF676 : F ≤ 26 * 26 := by rw [hF]; exact Nat.mul_le_mul (by omega) (by omega)
  have hFe : F * e ≤ 26 * 26 := by rw [hF, Nat.mul_assoc, ← hr1]; exact Nat.mul_le_mul (by omega) (by omega)
  have hFe1 : A1 ≤ F * e := by rw [hF, Nat.mul_right_comm, ← hl1]; exact Nat.le_mul_of_pos_right _ hrp
  have hFe2 : A2 ≤ F * e := by rw [hF, Nat.mul_assoc, ← hr1]; exact Nat.le_mul_of_pos_left _ hlp
  obtain ⟨K, hK⟩ : ∃ K, K = 2 * (F * e) := ⟨_, rfl⟩
  -- the middle number
  have hx1 := upN_eq K A1 b1 (by omega) (by omega) (by omega) (by omega) (by omega)
  have hx2 := upN_eq K A2 b2 (by omega) (by omega) (by omega) (by omega) (by omega)
  obtain ⟨M, m1, m2, m3, m4⟩ := q_midL b1 b2 D l r (F * e) (-D).toNat _ _ K (by omega) (by omega) (by omega) (by omega) (by omega) (by omega) (by omega) hlp (by omega) hrp (by omega) hK (by omega) (by omega) hx1 hx2 r 0 100000 b1 (upN K A1 (tt A1 b1)) (by omega) (by omega) (by omega) (by omega) hx1
  have hcp : cpN (-D).toNat A1 (tt A1 b1) A2 (tt A2 b2) = cond (Nat.beq ((midN (-D).toNat (upN K A1 (tt A1 b1)) (upN K A2 (tt A2 b2)) (2 * l) (2 * r) (2 * K) r (upN K A1 (tt A1 b1)) * midN (-D).toNat (upN K A1 (tt A1 b1)) (upN K A2 (tt A2 b2)) (2 * l) (2 * r) (2 * K) r (upN K A1 (tt A1 b1)) + (-D).toNat) % (4 * F)) 0) (rN (-D).toNat 40 F (midN (-D).toNat (upN K A1 (tt A1 b1)) (upN K A2 (tt A2 b2)) (2 * l) (2 * r) (2 * K) r (upN K A1 (tt A1 b1)) % (2 * F))) 0 := by
    unfold cpN
    rw [nst_eq, nst_eq, nst_eq, nst_eq, nst_eq, nst_eq, nst_eq, nst_eq]
    rw [hK, hF, hl, hr, he]
    rfl
  rw [show ((A1 : Int).toNat) = A1 from rfl, show ((A2 : Int).toNat) = A2 from rfl, hcp] at hkey
  generalize midN (-D).toNat (upN K A1 (tt A1 b1)) (upN K A2 (tt A2 b2)) (2 * l) (2 * r) (2 * K) r (upN K A1 (tt A1 b1)) = MN at *
  have hex : (MN * MN + (-D).toNat) % (4 * F) = 0 := by
    by_cases hh : (MN * MN + (-D).toNat) % (4 * F) = 0
    · exact hh
    · rw [b_false hh] at hkey
      have hkey : 0 = _ := hkey
      omega
  rw [b_true hex] at hkey
  have hkey : rN (-D).toNat 40 F (MN % (2 * F)) = _ := hkey
  have hKz : (K : Int) = 2 * ((F : Int) * e) := by rw [hK, Int.natCast_mul, Int.natCast_mul]; rfl
  have hdv : (4 * (F : Int)) ∣ M * M - D := by
    have g1 : (4 * (F : Int)) ∣ ((MN * MN + (-D).toNat : Nat) : Int) := by
      have := Int.natCast_dvd_natCast.mpr (Nat.dvd_of_mod_eq_zero hex)
      rw [Int.natCast_mul] at this
      exact this
    have g2 : M * M - D = ((MN * MN + (-D).toNat : Nat) : Int) - (4 * (F : Int)) * (e * M + F * e * e) := by
      rw [Int.natCast_add, Int.natCast_mul, m2, hKz, Int.toNat_of_nonneg (by omega)]
      grind
    rw [g2]
    exact Int.dvd_sub g1 (Int.dvd_mul_right _ _)
  obtain ⟨c, hc⟩ := hdv
  obtain ⟨mm1, mm2⟩ := mulb (show -2000 ≤ M by omega) (show M ≤ 2000 by omega) (show -2000 ≤ M by omega) (show M ≤ 2000 by omega)
  have hMM : 0 ≤ M * M := by
    rcases Int.le_total 0 M with h | h
    · exact Int.mul_nonneg h h
    · have := Int.mul_nonneg (show 0 ≤ -M by omega) (show 0 ≤ -M by omega); grind
  have hcpos : 0 < c := rd_pos F M c (by omega) (by omega)
  have hcle : c ≤ 4 * (F : Int) * c := by
    have := Int.mul_le_mul_of_nonneg_right (show 1 ≤ 4 * (F : Int) by omega) (show 0 ≤ c by omega)
    omega
  obtain ⟨n, x, y, z, P, Q, R, S, hT, hn, r1, r2, g1, g2, g3, g4, g5⟩ := q_reduce 10 (by omega) F M c (by omega) (by omega) (by omega) (by omega) (by omega) (by omega) (by omega)
  have hrn := rd_rN (-D).toNat (by omega) x y z n F M c 40 hT (by omega) (by omega) (by omega)
  have htt : tt F M = MN % (2 * F) := by
    apply Int.ofNat_inj.mp
    rw [tt_cast F M (by omega), Int.natCast_emod, m2, hKz, Int.natCast_mul]
    rw [show 2 * ((F : Int) * e) = ((2 : Nat) : Int) * (F : Int) * e by rw [Int.mul_assoc]; rfl, Int.add_mul_emod_self_left]
    rfl
  rw [show (F : Int).toNat = F from rfl, htt, hkey] at hrn
  obtain ⟨i1, i2, i3⟩ := g_key D hD (gT D j k) hlt x y z g2 g1 (by omega) hrn.symm
  have hfind := (q_find D hD fa fb fc H h40 x y (by omega) (by omega) (by unfold rd_done at g1; omega) (by unfold rd_done at g1; omega)).1 (gT D j k) hlt i1 i2
  -- now the machine's words
  have a1l : zi (A1 : Int) / zi (e : Int) = zi (l : Int) := by rw [zi_div (by omega) (by omega) (by omega) (by omega), hl]; rfl
  have a2r : zi (A2 : Int) / zi (e : Int) = zi (r : Int) := by rw [zi_div (by omega) (by omega) (by omega) (by omega), hr]; rfl
  have he0 : ¬ zi (e : Int) = 0 := by rw [zi0, zi_eq (by omega) (by omega) (by omega) (by omega)]; omega
  have hmid : f_X0_middleOfProduct (zi D) (zi l) (zi b1) (zi r) (zi b2) (zi e) = some (zi M) := by
    rw [f_X0_middleOfProduct]
    simp only [e_let, zi4, zi_mul, zi_add]
    rw [show (4 * (l : Int) * r * e) = 2 * (K : Int) by rw [hKz, hF, Int.natCast_mul]; grind]
    exact m1
  have hs2 : (zi b1 + zi b2) / 2 = zi s := by
    rw [zi_add, zi2, zi_div (by omega) (by omega) (by omega) (by omega), hs, Int.mul_tdiv_cancel_left _ (by omega)]
  have hgc : f_X3_gcd (zi A1) (zi A2) = some (zi (Nat.gcd A1 A2 : Nat)) := q_gcd A1 A2 (by omega) (by omega) (by omega) (by omega)
  have hgc2 : f_X3_gcd (zi (Nat.gcd A1 A2 : Nat)) (zi s) = some (zi e) := by rw [q_gcd _ s (by omega) (by omega) (by omega) (by omega), ← hee]
  have elr : zi (l : Int) * zi (r : Int) = zi (F : Int) := by rw [zi_mul, hF, Int.natCast_mul]
  have e4 : zi 4 * zi (l : Int) * zi (r : Int) = zi (4 * (F : Int)) := by rw [zi_mul, zi_mul, hF, Int.natCast_mul, Int.mul_assoc]
  have eM : zi M * zi M - zi D = zi (M * M - D) := by rw [zi_mul, zi_sub]
  have hdv1 : f_X3_divides (zi (4 * (F : Int))) (zi (M * M - D)) = some 1 := by
    rw [q_dvs _ _ (by omega) (by omega) (by omega) (by omega), if_pos (by rw [hc]; exact Int.mul_emod_right _ _)]
  have hth : zi (M * M - D) / zi (4 * (F : Int)) = zi c := by
    rw [zi_div (by omega) (by omega) (by omega) (by omega), hc, Int.mul_tdiv_cancel_left _ (by omega)]
  have h40' : ¬ zi (4 * (F : Int)) = 0 := by rw [zi0, zi_eq (by omega) (by omega) (by omega) (by omega)]; omega
  have hh1 := ((q_has ((pu_list D).length) j (by omega) (by omega) (by omega) (by omega)).1 (by omega)).1
  have hh2 := ((q_has ((pu_list D).length) k (by omega) (by omega) (by omega) (by omega)).1 (by omega)).1
  have n10 : ¬ (1 : Int32) = 0 := by decide
  refine ⟨zi x, zi y, zi z, P.toInt32, Q.toInt32, R.toInt32, S.toInt32, zi (M * M - 4 * F * c), ?_⟩
  rw [f_X0_product, hh1, e_b1, if_neg n10, hh2, e_b1, if_neg n10, e_g hgj, e_g hgk, hni, hnk, w1, w3, hgc, e_b1, e_g hgj', e_g hgk', w2, w4, hs2, hgc2, e_b1, if_neg he0, e_g hgj', e_g he0, e_let, a1l, e_g hgk', e_g he0, e_let, a2r, e_g hgj', e_g hgk', hmid, e_b1, e_let, e_let, zi4, e4, eM, hdv1, e_b1, if_neg n10, e_g h40', elr, hth, r1, e_b9, hfind, e_b1]
