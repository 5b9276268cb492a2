/-! What the witness says; the reference's way to a first value. -/
theorem wX_s (a t c y n x : Nat) : wX a t c y (n + 1) x = cond (and (Nat.beq (Nat.gcd (valN a t c x y) wP) 1) (and (Nat.beq (Nat.gcd x y) 1) (Nat.ble (valN a t c x y) 99998))) true (wX a t c y n (x + 1)) := by
  have e : wX a t c y (n + 1) x = nst (valN a t c x y) (fun v => cond (and (Nat.beq (Nat.gcd v wP) 1) (and (Nat.beq (Nat.gcd x y) 1) (Nat.ble v 99998))) true (nst (Nat.succ x) fun x => wX a t c y n x)) := rfl
  rw [e, nst_eq, nst_eq]
def wG (a t c x y : Nat) : Prop := Nat.gcd (valN a t c x y) wP = 1 ∧ Nat.gcd x y = 1 ∧ valN a t c x y ≤ 99998
theorem wX_ok (a t c y n : Nat) : ∀ x, wX a t c y n x = true → ∃ x', x' < x + n ∧ wG a t c x' y := by
  induction n with
  | zero => intro x h; cases h
  | succ n ih =>
    intro x h
    rw [wX_s] at h
    cases hb : and (Nat.beq (Nat.gcd (valN a t c x y) wP) 1) (and (Nat.beq (Nat.gcd x y) 1) (Nat.ble (valN a t c x y) 99998))
    · rw [hb] at h
      obtain ⟨x', h1, h2⟩ := ih (x + 1) h
      exact ⟨x', by omega, h2⟩
    · rw [Bool.and_eq_true, Bool.and_eq_true, Nat.beq_eq, Nat.beq_eq, Nat.ble_eq] at hb
      exact ⟨x, by omega, hb.1, hb.2.1, hb.2.2⟩
theorem wY_ok (a t c : Nat) (h : wY a t c = true) : ∃ x y, x ≤ 30 ∧ y ≤ 6 ∧ wG a t c x y := by
  unfold wY at h
  cases h1 : wX a t c 1 29 1
  rotate_left
  · obtain ⟨x, q1, q2⟩ := wX_ok a t c 1 29 1 h1
    exact ⟨x, 1, by omega, by omega, q2⟩
  rw [h1] at h
  cases h2 : wX a t c 2 29 1
  rotate_left
  · obtain ⟨x, q1, q2⟩ := wX_ok a t c 2 29 1 h2
    exact ⟨x, 2, by omega, by omega, q2⟩
  rw [h2] at h
  cases h3 : wX a t c 3 29 1
  rotate_left
  · obtain ⟨x, q1, q2⟩ := wX_ok a t c 3 29 1 h3
    exact ⟨x, 3, by omega, by omega, q2⟩
  rw [h3] at h
  cases h4 : wX a t c 4 29 1
  rotate_left
  · obtain ⟨x, q1, q2⟩ := wX_ok a t c 4 29 1 h4
    exact ⟨x, 4, by omega, by omega, q2⟩
  rw [h4] at h
  cases h5 : wX a t c 5 29 1
  rotate_left
  · obtain ⟨x, q1, q2⟩ := wX_ok a t c 5 29 1 h5
    exact ⟨x, 5, by omega, by omega, q2⟩
  rw [h5] at h
  obtain ⟨x, q1, q2⟩ := wX_ok a t c 6 29 1 h
  exact ⟨x, 6, by omega, by omega, q2⟩
theorem lall_eq {α : Type} (f : α → Bool) (l : List α) (h : lall f l = true) : ∀ e, e ∈ l → f e = true := by
  induction l with
  | nil => intro e he; cases he
  | cons x l ih =>
    intro e he
    have h : cond (f x) (lall f l) false = true := h
    obtain ⟨h1, h2⟩ := c_true h
    rcases List.mem_cons.mp he with rfl | he
    · exact h1
    · exact ih h2 e he
theorem valN_eq (A C x y : Nat) (b : Int) (hA : 0 < A) (h1 : -(A : Int) < b) (h2 : b ≤ A) (h0 : 0 ≤ vf A b C x y) : ((valN A (tt A b) C x y : Nat) : Int) = vf A b C x y := by
  have e1 : vf A b C x y = A * (x * x) + C * (y * y) + b * (x * y) := by unfold vf; grind
  obtain ⟨s1, hs1⟩ : ∃ s, s = A * (x * x) := ⟨_, rfl⟩
  obtain ⟨s2, hs2⟩ : ∃ s, s = C * (y * y) := ⟨_, rfl⟩
  obtain ⟨s4, hs4⟩ : ∃ s, s = A * (x * y) := ⟨_, rfl⟩
  have es1 : (s1 : Int) = A * (x * x) := by rw [hs1, Int.natCast_mul, Int.natCast_mul]
  have es2 : (s2 : Int) = C * (y * y) := by rw [hs2, Int.natCast_mul, Int.natCast_mul]
  have es4 : (s4 : Int) = A * (x * y) := by rw [hs4, Int.natCast_mul, Int.natCast_mul]
  unfold valN
  simp only [Nat.add_eq, Nat.mul_eq, Nat.sub_eq]
  rw [← hs1, ← hs2, ← hs4]
  rcases (show b < 0 ∨ 0 ≤ b by omega) with h | h
  · have e := tt_neg (a := (A : Int)) h (by omega) (by omega)
    generalize tt (A : Int) b = t at e
    rw [show Nat.ble t A = false by rw [← Bool.not_eq_true, Nat.ble_eq]; omega, cond_false]
    obtain ⟨s3, hs3⟩ : ∃ s, s = t * (x * y) := ⟨_, rfl⟩
    have es3 : (s3 : Int) = b * (x * y) + 2 * (A * (x * y)) := by
      rw [hs3, Int.natCast_mul, e, Int.natCast_mul, Int.add_mul, Int.mul_assoc 2]
    rw [← hs3]
    omega
  · have e := tt_pos (a := (A : Int)) h h2 (by omega)
    generalize tt (A : Int) b = t at e
    rw [show Nat.ble t A = true by rw [Nat.ble_eq]; omega, cond_true]
    obtain ⟨s3, hs3⟩ : ∃ s, s = t * (x * y) := ⟨_, rfl⟩
    have es3 : (s3 : Int) = b * (x * y) := by
      rw [hs3, Int.natCast_mul, e, Int.natCast_mul]
    rw [← hs3]
    omega
theorem vf_nn (D a b c x y : Int) (H : fH D a b c) : 0 ≤ vf a b c x y := by
  obtain ⟨ha, ha', hb, hb', hc, hc', hD, hD0, hD2, h3a, h3c⟩ := H
  have h := vf_u a b c x y D hD
  have h1 := sq_nn (2 * a * x + b * y)
  have h2 := Int.mul_nonneg (show 0 ≤ -D by omega) (sq_nn y)
  rw [Int.neg_mul] at h2
  exact Int.le_of_mul_le_mul_left (show 4 * a * 0 ≤ 4 * a * vf a b c x y by omega) (show 0 < 4 * a by omega)
theorem q_wit (D : Int) (hD : pu_ok D) (k : Nat) (hk : k < (pu_list D).length) : ∃ x y : Nat, x ≤ 30 ∧ y ≤ 6 ∧ Nat.gcd x y = 1 ∧ 1 ≤ vf (pu_at D k).1 (pu_at D k).2.1 (pu_at D k).2.2 x y ∧ vf (pu_at D k).1 (pu_at D k).2.1 (pu_at D k).2.2 x y ≤ 99998 ∧ ∀ m : Nat, 1 ≤ m → m ≤ 500 → Int.gcd (vf (pu_at D k).1 (pu_at D k).2.1 (pu_at D k).2.2 x y) m = 1 := by
  have hc : chkW (-D).toNat = true := by
    obtain ⟨q1, q2, q3⟩ := hD
    exact chv_all (-D).toNat (by omega) (by omega) (by omega)
  have hm : enc (pu_at D k) ∈ asN (-D).toNat 1 26 := by
    have : asN (-D).toNat 1 26 = (pu_list D).map enc := gL_eq D hD
    rw [this]
    exact List.mem_map_of_mem (pu_at_mem D k hk)
  have hw : nst (aN (enc (pu_at D k))) (fun a => nst (tN (enc (pu_at D k))) fun t => nst (cN (enc (pu_at D k))) fun c => wY a t c) = true := lall_eq _ _ hc _ hm
  rw [nst_eq, nst_eq, nst_eq] at hw
  obtain ⟨p1, p2, p3, _⟩ := enc_p D hD k hk
  rw [p1, p2, p3] at hw
  obtain ⟨x, y, hx, hy, w1, w2, w3⟩ := wY_ok _ _ _ hw
  refine ⟨x, y, hx, hy, w2, ?_⟩
  have H := fH_of D hD k hk
  obtain ⟨u1, u2, u3, u4, u5, u6, u7, u8⟩ := pu_at_sz D hD k hk
  unfold rd_done at u8
  have hnn := vf_nn D _ _ _ (x : Int) (y : Int) H
  obtain ⟨A, hA⟩ : ∃ A : Nat, (pu_at D k).1 = A := ⟨(pu_at D k).1.toNat, by omega⟩
  obtain ⟨C, hC⟩ : ∃ A : Nat, (pu_at D k).2.2 = A := ⟨(pu_at D k).2.2.toNat, by omega⟩
  rw [hA, hC] at hnn ⊢
  rw [hA] at u1 u2 u8 w1 w3
  rw [hC] at w1 w3
  have ev := valN_eq A C x y (pu_at D k).2.1 (by omega) (by omega) (by omega) hnn
  rw [show ((A : Int).toNat) = A from rfl, show ((C : Int).toNat) = C from rfl] at w1 w3
  generalize valN A (tt A (pu_at D k).2.1) C x y = v at *
  rw [← ev]
  refine ⟨?_, by omega, fun m m1 m2 => ?_⟩
  · rcases Nat.eq_zero_or_pos v with h | h
    · subst h
      rw [Nat.gcd_zero_left] at w1
      exact absurd w1 (by decide +kernel)
    · omega
  · have := Nat.Coprime.coprime_dvd_right (wP_dvd m m1 m2) w1
    exact this
theorem q_away (D : Int) (hD : pu_ok D) (k : Nat) (hk : k < (pu_list D).length) (h40 : (pu_list D).length ≤ 40) (la lb lc : Nat → Int64) (H4 : hl4 (pu_list D) la lb lc) (ta tb tc tp tq tr ts : Int64) (m : Nat) (hm : 1 ≤ m) (hm' : m ≤ 500) :
    ∃ (x y : Nat) (w2 w3 w4 w5 w6 w7 : Int64), x ≤ 100 ∧ y ≤ 100 ∧ Nat.gcd x y = 1 ∧ Int.gcd (vf (pu_at D k).1 (pu_at D k).2.1 (pu_at D k).2.2 x y) m = 1 ∧ f_X4_away la lb lc ta tb tc tp tq tr ts (zi k) (zj m) = some (zj (vf (pu_at D k).1 (pu_at D k).2.1 (pu_at D k).2.2 x y), w2, w3, w4, w5, w6, w7) := by
  obtain ⟨v1, v2, v3, v4, v5, v6, v7, v8⟩ := pu_at_sz D hD k hk
  obtain ⟨s4, s5, s6⟩ := H4 k hk (by omega)
  have s4 : la k = zj (pu_at D k).1 := s4
  have s5 : lb k = zj (pu_at D k).2.1 := s5
  have s6 : lc k = zj (pu_at D k).2.2 := s6
  have haw := q_aw3 la lb lc ta tb tc tp tq tr ts k (by omega) (pu_at D k).1 (pu_at D k).2.1 (pu_at D k).2.2 m s4 s5 s6 (by omega) (by omega) (by omega) (by omega) (by omega) (by omega) (by omega) (by omega) 99 1 100000 (by omega) (by omega)
  obtain ⟨x0, y0, x1, y1, g0, _, _, g1⟩ := q_wit D hD k hk
  cases hs : sc3 (aw (aq (pu_at D k).1 (pu_at D k).2.1 (pu_at D k).2.2 m)) 99 1 with
  | none =>
    exfalso
    have hne : 1 ≤ max x0 y0 := by
      rcases Nat.eq_zero_or_pos (max x0 y0) with h | h
      · have hx : x0 = 0 := by omega
        have hy : y0 = 0 := by omega
        rw [hx, hy] at g0
        exact absurd g0 (by decide)
      · omega
    have f := sc3_none _ 99 1 hs (max x0 y0) x0 y0 hne (by omega) (by omega) (by omega)
    have t : aw (aq (pu_at D k).1 (pu_at D k).2.1 (pu_at D k).2.2 m) (max x0 y0) x0 y0 = true := by
      unfold aw aq
      rw [Bool.and_eq_true, Bool.and_eq_true, decide_eq_true_eq, decide_eq_true_eq, decide_eq_true_eq]
      exact ⟨by omega, g0, g1 m hm hm'⟩
    rw [t] at f
    cases f
  | some r =>
    obtain ⟨x, y⟩ := r
    obtain ⟨f, f1, f2, f3, f4, f5⟩ := sc3_some _ 99 1 _ hs
    have f3 : x ≤ f := f3
    have f4 : y ≤ f := f4
    rw [hs, om_some] at haw
    unfold aw aq at f5
    rw [Bool.and_eq_true, Bool.and_eq_true, decide_eq_true_eq, decide_eq_true_eq, decide_eq_true_eq] at f5
    obtain ⟨w', u', r1, r2, r3, r4, r5, r6⟩ := q_cmp (zj (pu_at D k).1) (zj (pu_at D k).2.1) (zj (pu_at D k).2.2) 1 0 0 1 x y (by omega) (by omega) f5.2.1
    have haw : f_X4_away la lb lc ta tb tc tp tq tr ts (zi k) (zj m) = f_X4_complete (zj (pu_at D k).1) (zj (pu_at D k).2.1) (zj (pu_at D k).2.2) 1 0 0 1 (zj x) (zj y) := haw
    rw [r6, f_X4_apply] at haw
    simp only [h_let] at haw
    have ev : zj (pu_at D k).1 * zj (x : Int) * zj (x : Int) + zj (pu_at D k).2.1 * zj (x : Int) * zj (y : Int) + zj (pu_at D k).2.2 * zj (y : Int) * zj (y : Int) = zj (vf (pu_at D k).1 (pu_at D k).2.1 (pu_at D k).2.2 x y) := by
      simp only [zj_mul, zj_add]; rfl
    rw [ev] at haw
    exact ⟨x, y, _, _, _, _, _, _, by omega, by omega, f5.2.1, f5.2.2, haw⟩
