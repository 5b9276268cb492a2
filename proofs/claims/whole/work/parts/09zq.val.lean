/-! The number of pairs of a value: the class's rows and the reference's box. -/
def gg (a b c n : Int) (p : Nat) (x y : Int) : Nat := if vf a b c x y = n ∧ (p = 0 ∨ Int.gcd x y = 1) then 1 else 0
theorem gg_neg (a b c n : Int) (p : Nat) (x y : Int) : gg a b c n p (-x) (-y) = gg a b c n p x y := by
  unfold gg; rw [vf_neg, Int.neg_gcd, Int.gcd_neg]
/-- one form -/
def fH (D a b c : Int) : Prop := 0 < a ∧ a ≤ 26 ∧ -26 ≤ b ∧ b ≤ 26 ∧ 0 < c ∧ c ≤ 700 ∧ b * b - 4 * a * c = D ∧ D < 0 ∧ -2000 ≤ D ∧ 3 * a ≤ -D ∧ 3 * c ≤ -D
/-- the box of n -/
def bX (D a c n : Int) (X Y : Nat) : Prop := 4 * c * n < -D * ((X + 1 : Int) * (X + 1)) ∧ 4 * a * n < -D * ((Y + 1 : Int) * (Y + 1)) ∧ -D * ((Y : Int) * Y) ≤ 4 * a * n ∧ X ≤ 4000 ∧ Y ≤ 4000
theorem q_pair (fa : Nat → Int32) (k : Nat) (hk : k < 40) (a : Int) (h1 : fa k = zi a) (ha : 0 < a) (ha' : a ≤ 26) (u y : Int) (hu : -1000000000 ≤ u) (hu' : u ≤ 1000000000) (hy : -1000000000 ≤ y) (hy' : y ≤ 1000000000) (p : Nat) (hp : p ≤ 1) : f_X0_isPair fa (zi k) (zi u) (zi y) (zi p) = some (if u % (2 * a) = 0 ∧ (p = 0 ∨ Int.gcd (u / (2 * a)) y = 1) then 1 else 0) := by
  have hni : (zi (k : Int)).toNatClampNeg = k := by rw [zi_nat (by omega) (by omega)]; omega
  have hg : ¬ (zi (k : Int) < 0 ∨ 40 ≤ (zi (k : Int)).toNatClampNeg) := by rw [zi0, zi_lt (by omega) (by omega) (by omega) (by omega), hni]; omega
  have hz : ¬ zi (2 * a) = 0 := by rw [zi0, zi_eq (by omega) (by omega) (by omega) (by omega)]; omega
  have c2 : (zi (p : Int) = 0) ↔ p = 0 := by rw [zi0, zi_eq (by omega) (by omega) (by omega) (by omega)]; omega
  rw [f_X0_isPair, e_g hg, e_let, hni, h1, zi2, zi_mul, q_dvs _ _ (by omega) (by omega) (by omega) (by omega), e_b1]
  by_cases d1 : u % (2 * a) = 0
  · rw [if_pos d1, if_neg (show ¬ (1 : Int32) = 0 by decide)]
    by_cases d2 : p = 0
    · rw [if_pos (c2.mpr d2), if_pos ⟨d1, Or.inl d2⟩]
    · rw [if_neg (fun h => d2 (c2.mp h)), e_g hz, zi_div (by omega) (by omega) (by omega) (by omega), Int.tdiv_eq_ediv_of_dvd (Int.dvd_of_emod_eq_zero d1)]
      have hq : -1000000000 ≤ u / (2 * a) ∧ u / (2 * a) ≤ 1000000000 := by
        have := Int.natAbs_ediv_le_natAbs u (2 * a)
        omega
      generalize u / (2 * a) = q at hq
      have hgb : Int.gcd q y ≤ 1000000000 := by
        by_cases h0 : q = 0
        · subst h0; rw [Int.zero_gcd]; omega
        · have := Nat.le_of_dvd (show 0 < q.natAbs by omega) (Int.gcd_dvd_natAbs_left q y); omega
      have c3 : (zi (Int.gcd q y : Nat) = 1) ↔ Int.gcd q y = 1 := by rw [zi1, zi_eq (by omega) (by omega) (by omega) (by omega)]; omega
      rw [q_gcd q y (by omega) (by omega) (by omega) (by omega), e_b1]
      by_cases d3 : Int.gcd q y = 1
      · rw [if_pos (c3.mpr d3), if_pos ⟨d1, Or.inr d3⟩]
      · rw [if_neg (fun h => d3 (c3.mp h)), if_neg (fun h => h.2.elim d2 d3)]
  · rw [if_neg d1, if_pos (show (0 : Int32) = 0 from rfl), if_neg (fun h => d1 h.1)]
theorem row_lin (a b y t : Int) (ha : 0 < a) (ok : Int → Bool) (X : Nat) (hin : ∀ x, 2 * a * x + b * y = t → -(X : Int) ≤ x ∧ x ≤ X) : sm (fun x => if 2 * a * x + b * y = t ∧ ok x = true then 1 else 0) (-(X : Int)) (2 * X + 1) = if (t - b * y) % (2 * a) = 0 ∧ ok ((t - b * y) / (2 * a)) = true then 1 else 0 := by
  have e := Int.mul_ediv_add_emod (t - b * y) (2 * a)
  by_cases d : (t - b * y) % (2 * a) = 0
  · rw [d] at e
    generalize (t - b * y) / (2 * a) = x0 at e
    have hx0 : 2 * a * x0 + b * y = t := by omega
    obtain ⟨g1, g2⟩ := hin x0 hx0
    rw [sm_one _ x0 (fun i hi => ?_) (2 * X + 1) (-(X : Int)) g1 (by omega)]
    · by_cases o : ok x0 = true
      · rw [if_pos ⟨hx0, o⟩, if_pos ⟨d, o⟩]
      · rw [if_neg (fun h => o h.2), if_neg (fun h => o h.2)]
    · refine if_neg (fun h => hi ?_)
      exact Int.eq_of_mul_eq_mul_left (show 2 * a ≠ 0 by omega) (show 2 * a * i = 2 * a * x0 by omega)
  · rw [if_neg (fun h => d h.1)]
    refine sm_none _ _ _ (fun i _ _ => if_neg (fun h => d ?_))
    rw [show t - b * y = 2 * a * i by omega]
    exact Int.mul_emod_right _ _
theorem q_row (fa fb : Nat → Int32) (k : Nat) (hk : k < 40) (a b c D n : Int) (h1 : fa k = zi a) (h2 : fb k = zi b) (H : fH D a b c) (X Y : Nat) (B : bX D a c n X Y) (y : Int) (hy : 0 ≤ y) (hy' : y ≤ 4000) (hs0 : 0 ≤ 4 * a * n + D * (y * y)) (hs1 : 4 * a * n + D * (y * y) < 1073741824) (p : Nat) (hp : p ≤ 1) :
    f_X0_countInRow fa fb (zi k) (zi y) (zi (4 * a * n + D * (y * y))) (zi p) = some (zi (sm (fun x => gg a b c n p x y) (-(X : Int)) (2 * X + 1) : Nat)) := by
  obtain ⟨ha, ha', hb, hb', hc, hc', hD, hD0, hD2, h3a, h3c⟩ := H
  obtain ⟨bx, bY, bY2, bx4, bY4⟩ := B
  have hni : (zi (k : Int)).toNatClampNeg = k := by rw [zi_nat (by omega) (by omega)]; omega
  have hg : ¬ (zi (k : Int) < 0 ∨ 40 ≤ (zi (k : Int)).toNatClampNeg) := by rw [zi0, zi_lt (by omega) (by omega) (by omega) (by omega), hni]; omega
  have hg' : ¬ (zi (k : Int) < 0 ∨ 40 ≤ k) := by rw [hni] at hg; exact hg
  obtain ⟨s, hs, s0, s1, s2, s3⟩ := q_root (4 * a * n + D * (y * y)) hs0 hs1
  have hu := fun x => vf_u a b c x y D hD
  have hby := mulb (show -26 ≤ b by omega) (show b ≤ 26 by omega) (show -4000 ≤ y by omega) (show y ≤ 4000 by omega)
  have hss : s * s ≤ 32768 * 32768 := Int.mul_self_le_mul_self s0 (by omega)
  have hss0 := sq_nn s
  by_cases hsq : s * s = 4 * a * n + D * (y * y)
  · have hiff : ∀ x, vf a b c x y = n ↔ (2 * a * x + b * y = s ∨ 2 * a * x + b * y = -s) := by
      intro x
      have hx := hu x
      constructor
      · intro h
        rw [h] at hx
        exact sq_two _ s s0 (by omega) (by omega)
      · intro h
        have e : (2 * a * x + b * y) * (2 * a * x + b * y) = s * s := by
          rcases h with h | h
          · rw [h]
          · rw [h, Int.neg_mul_neg]
        exact Int.eq_of_mul_eq_mul_left (show 4 * a ≠ 0 by omega) (show 4 * a * vf a b c x y = 4 * a * n by omega)
    have hbox : ∀ x, (2 * a * x + b * y = s ∨ 2 * a * x + b * y = -s) → -(X : Int) ≤ x ∧ x ≤ X := by
      intro x hx
      have := vf_box a b c n x y D X Y hD hD0 bx bY ((hiff x).mpr hx)
      omega
    have L1 := row_lin a b y s ha (fun x => decide (p = 0 ∨ Int.gcd x y = 1)) X (fun x hx => hbox x (Or.inl hx))
    have L2 := row_lin a b y (-s) ha (fun x => decide (¬ s = 0 ∧ (p = 0 ∨ Int.gcd x y = 1))) X (fun x hx => hbox x (Or.inr hx))
    have hsum : sm (fun x => gg a b c n p x y) (-(X : Int)) (2 * X + 1) = (if (s - b * y) % (2 * a) = 0 ∧ (p = 0 ∨ Int.gcd ((s - b * y) / (2 * a)) y = 1) then 1 else 0) + (if (-s - b * y) % (2 * a) = 0 ∧ (¬ s = 0 ∧ (p = 0 ∨ Int.gcd ((-s - b * y) / (2 * a)) y = 1)) then 1 else 0) := by
      simp only [decide_eq_true_eq] at L1 L2
      rw [← L1, ← L2, ← sm_add]
      refine sm_ext _ _ (fun x _ _ => ?_)
      unfold gg
      by_cases ho : p = 0 ∨ Int.gcd x y = 1
      · by_cases e1 : 2 * a * x + b * y = s
        · rw [if_pos ⟨(hiff x).mpr (Or.inl e1), ho⟩, if_pos ⟨e1, ho⟩, if_neg (fun h => by omega)]
        · by_cases e2 : 2 * a * x + b * y = -s
          · rw [if_pos ⟨(hiff x).mpr (Or.inr e2), ho⟩, if_neg (fun h => e1 h.1), if_pos ⟨e2, by omega, ho⟩]
          · rw [if_neg (fun h => ((hiff x).mp h.1).elim e1 e2), if_neg (fun h => e1 h.1), if_neg (fun h => e2 h.1)]
      · rw [if_neg (fun h => ho h.2), if_neg (fun h => ho h.2), if_neg (fun h => ho h.2.2)]
    have P1 := q_pair fa k hk a h1 ha ha' (s - b * y) y (by omega) (by omega) (by omega) (by omega) p hp
    have P2 := q_pair fa k hk a h1 ha ha' (-s - b * y) y (by omega) (by omega) (by omega) (by omega) p hp
    have c0 : (zi s = 0) ↔ s = 0 := by rw [zi0, zi_eq (by omega) (by omega) (by omega) (by omega)]
    rw [hsum, f_X0_countInRow, hs, e_b1, zi_mul, if_pos (by rw [hsq]), hni, h2, zi_mul, zi_sub, zi_neg, zi_sub, P1, P2, e_g hg', e_b1, e_b1, e_b1]
    by_cases A : (s - b * y) % (2 * a) = 0 ∧ (p = 0 ∨ Int.gcd ((s - b * y) / (2 * a)) y = 1)
    · rw [if_pos A, if_pos A, if_neg (show ¬ (1 : Int32) = 0 by decide)]
      by_cases z : s = 0
      · rw [if_pos (c0.mpr z), if_neg (fun h => h.2.1 z)]; rfl
      · rw [if_neg (fun h => z (c0.mp h)), e_g hg']
        by_cases C : (-s - b * y) % (2 * a) = 0 ∧ (p = 0 ∨ Int.gcd ((-s - b * y) / (2 * a)) y = 1)
        · rw [if_pos C, if_neg (show ¬ (1 : Int32) = 0 by decide), if_pos ⟨C.1, z, C.2⟩]; rfl
        · rw [if_neg C, if_pos rfl, if_neg (fun h => C ⟨h.1, h.2.2⟩)]; rfl
    · rw [if_neg A, if_neg A, if_pos (show (0 : Int32) = 0 from rfl)]
      by_cases z : s = 0
      · rw [if_pos (c0.mpr z), if_neg (fun h => h.2.1 z)]; rfl
      · rw [if_neg (fun h => z (c0.mp h)), e_g hg']
        by_cases C : (-s - b * y) % (2 * a) = 0 ∧ (p = 0 ∨ Int.gcd ((-s - b * y) / (2 * a)) y = 1)
        · rw [if_pos C, if_neg (show ¬ (1 : Int32) = 0 by decide), if_pos ⟨C.1, z, C.2⟩]; rfl
        · rw [if_neg C, if_pos rfl, if_neg (fun h => C ⟨h.1, h.2.2⟩)]; rfl
  · have hsum : sm (fun x => gg a b c n p x y) (-(X : Int)) (2 * X + 1) = 0 := by
      refine sm_none _ _ _ (fun x _ _ => ?_)
      unfold gg
      refine if_neg (fun h => hsq ?_)
      have hx := hu x
      rw [h.1] at hx
      rcases sq_two (2 * a * x + b * y) s s0 (by omega) (by omega) with e | e
      · rw [e] at hx; omega
      · rw [e, Int.neg_mul_neg] at hx; omega
    rw [hsum, f_X0_countInRow, hs, e_b1, zi_mul, if_neg (by rw [zi_eq (by omega) (by omega) (by omega) (by omega)]; exact hsq)]
    rfl
