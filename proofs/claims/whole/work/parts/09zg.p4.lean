/-! The reference's product. -/
theorem sc_f1 (Q : Nat → Nat → Bool) : sc2 (aw Q) 1 2 0 = if Q 0 1 = true then some (0, 1) else if Q 1 0 = true then some (1, 0) else if Q 1 1 = true then some (1, 1) else none := by
  have h : ∀ p q r : Bool, Q 0 1 = p → Q 1 0 = q → Q 1 1 = r → sc2 (aw Q) 1 2 0 = if Q 0 1 = true then some (0, 1) else if Q 1 0 = true then some (1, 0) else if Q 1 1 = true then some (1, 1) else none := by
    intro p q r hp hq hr
    cases p <;> cases q <;> cases r <;> simp [sc2, sc1, aw, hp, hq, hr]
  exact h _ _ _ rfl rfl rfl
theorem sc_f2 (Q : Nat → Nat → Bool) : sc2 (aw Q) 2 3 0 = if Q 1 2 = true then some (1, 2) else if Q 2 1 = true then some (2, 1) else none := by
  have h : ∀ p q : Bool, Q 1 2 = p → Q 2 1 = q → sc2 (aw Q) 2 3 0 = if Q 1 2 = true then some (1, 2) else if Q 2 1 = true then some (2, 1) else none := by
    intro p q hp hq
    cases p <;> cases q <;> simp [sc2, sc1, aw, hp, hq]
  exact h _ _ rfl rfl
theorem sc_f3 (Q : Nat → Nat → Bool) : sc2 (aw Q) 3 4 0 = if Q 1 3 = true then some (1, 3) else if Q 2 3 = true then some (2, 3) else if Q 3 1 = true then some (3, 1) else if Q 3 2 = true then some (3, 2) else none := by
  have h : ∀ p q r s : Bool, Q 1 3 = p → Q 2 3 = q → Q 3 1 = r → Q 3 2 = s → sc2 (aw Q) 3 4 0 = if Q 1 3 = true then some (1, 3) else if Q 2 3 = true then some (2, 3) else if Q 3 1 = true then some (3, 1) else if Q 3 2 = true then some (3, 2) else none := by
    intro p q r s hp hq hr hs
    cases p <;> cases q <;> cases r <;> cases s <;> simp [sc2, sc1, aw, hp, hq, hr, hs]
  exact h _ _ _ _ rfl rfl rfl rfl
theorem sc_first (Q : Nat → Nat → Bool) : sc3 (aw Q) 99 1 = if Q 0 1 = true then some (0, 1) else if Q 1 0 = true then some (1, 0) else if Q 1 1 = true then some (1, 1) else if Q 1 2 = true then some (1, 2) else if Q 2 1 = true then some (2, 1) else if Q 1 3 = true then some (1, 3) else if Q 2 3 = true then some (2, 3) else if Q 3 1 = true then some (3, 1) else if Q 3 2 = true then some (3, 2) else sc3 (aw Q) 96 4 := by
  have e1 : sc3 (aw Q) 99 1 = match sc2 (aw Q) 1 2 0 with
    | some r => some r
    | none => sc3 (aw Q) 98 2 := by rw [sc3, show 1 + 1 = 2 from rfl]; cases sc2 (aw Q) 1 2 0 <;> rfl
  have e2 : sc3 (aw Q) 98 2 = match sc2 (aw Q) 2 3 0 with
    | some r => some r
    | none => sc3 (aw Q) 97 3 := by rw [sc3, show 2 + 1 = 3 from rfl]; cases sc2 (aw Q) 2 3 0 <;> rfl
  have e3 : sc3 (aw Q) 97 3 = match sc2 (aw Q) 3 4 0 with
    | some r => some r
    | none => sc3 (aw Q) 96 4 := by rw [sc3, show 3 + 1 = 4 from rfl]; cases sc2 (aw Q) 3 4 0 <;> rfl
  rw [e1, e2, e3, sc_f1, sc_f2, sc_f3]
  generalize sc3 (aw Q) 96 4 = Z
  (repeat' split) <;> simp_all
theorem q_end (D : Int) (hD : pu_ok D) (h40 : (pu_list D).length ≤ 40) (la lb lc : Nat → Int64) (H : hl4 (pu_list D) la lb lc) (A1 : Nat) (b1 : Int) (hA : 0 < A1) (hA' : A1 ≤ 26) (hb1 : -(A1 : Int) < b1) (hb1' : b1 ≤ A1) (T : Nat) (hT : T < (pu_list D).length) (g b0 : Nat) (b' : Int) (hg : 0 < g) (hg' : g ≤ 7000) (hco : Nat.gcd g A1 = 1) (hb : -1000000000 ≤ b') (hb' : b' ≤ 1000000000) (hcong : ((b0 : Int) - b') % (2 * g) = 0) (hkey : endN (-D).toNat A1 (tt A1 b1) g b0 = (pu_at D T).1.toNat * 64 + tt (pu_at D T).1 (pu_at D T).2.1) :
    ∃ w1 w2 w3 w4 w5 w6 w7 : Int64, f_X4_product_L27 (zi D) (zi (pu_list D).length) la lb lc (zj A1) (zj g) (zj b') 100000 (zj b1) = some (zi T, w1, w2, w3, w4, w5, w6, w7) := by
  have hD' := hD
  unfold pu_ok at hD'
  have szT := pu_at_sz D hD T hT
  unfold endN at hkey
  rw [nst_eq, nst_eq] at hkey
  generalize bthN (Nat.mul 2 g) (Nat.mul 2 A1) (tt A1 b1) A1 b0 = B at hkey
  have k1 : B % (2 * A1) = tt A1 b1 := by
    by_cases h : B % (2 * A1) = tt A1 b1
    · exact h
    · rw [show Nat.beq (Nat.mod B (Nat.mul 2 A1)) (tt A1 b1) = false from b_false h] at hkey
      have hkey : 1 = _ := hkey
      omega
  rw [show Nat.beq (Nat.mod B (Nat.mul 2 A1)) (tt A1 b1) = true from b_true k1] at hkey
  have k2 : B % (2 * g) = b0 % (2 * g) := by
    by_cases h : B % (2 * g) = b0 % (2 * g)
    · exact h
    · rw [show Nat.beq (Nat.mod B (Nat.mul 2 g)) (Nat.mod b0 (Nat.mul 2 g)) = false from b_false h] at hkey
      have hkey : 1 = _ := hkey
      omega
  rw [show Nat.beq (Nat.mod B (Nat.mul 2 g)) (Nat.mod b0 (Nat.mul 2 g)) = true from b_true k2] at hkey
  obtain ⟨h, hh⟩ : ∃ h, h = A1 * g := ⟨_, rfl⟩
  have k3 : (B * B + (-D).toNat) % (4 * h) = 0 := by
    by_cases h' : (B * B + (-D).toNat) % (4 * h) = 0
    · exact h'
    · rw [show Nat.beq (Nat.mod (Nat.add (Nat.mul B B) (-D).toNat) (Nat.mul 4 (Nat.mul A1 g))) 0 = false from b_false (by rw [hh] at h'; exact h')] at hkey
      have hkey : 1 = _ := hkey
      omega
  rw [show Nat.beq (Nat.mod (Nat.add (Nat.mul B B) (-D).toNat) (Nat.mul 4 (Nat.mul A1 g))) 0 = true from b_true (by rw [hh] at k3; exact k3)] at hkey
  have hkey : rN (-D).toNat 40 (A1 * g) (B % (2 * (A1 * g))) = _ := hkey
  rw [← hh] at hkey
  have hhp : 0 < h := by rw [hh]; exact Nat.mul_pos hA hg
  have hhle : h ≤ 26 * 7000 := by rw [hh]; exact Nat.mul_le_mul hA' hg'
  have hhz : (h : Int) = (A1 : Int) * g := by rw [hh, Int.natCast_mul]
  -- B, as a whole number
  obtain ⟨tau, htau⟩ : ∃ tau : Int, (B : Int) - b1 = 2 * A1 * tau := by
    have e : ((B : Int) - b1) % (2 * A1) = 0 := by
      rw [← Int.emod_eq_emod_iff_emod_sub_eq_zero, ← tt_cast A1 b1 (by omega), ← k1, Int.natCast_emod, Int.natCast_mul]; rfl
    obtain ⟨t, ht⟩ := Int.dvd_of_emod_eq_zero e
    exact ⟨t, ht⟩
  obtain ⟨sig, hsig⟩ : ∃ sig : Int, (B : Int) - b' = 2 * g * sig := by
    have e0 : ((B : Int) - b0) % (2 * g) = 0 := by
      rw [← Int.emod_eq_emod_iff_emod_sub_eq_zero]
      have := congrArg (fun n : Nat => (n : Int)) k2
      simp only [Int.natCast_emod, Int.natCast_mul] at this
      exact this
    obtain ⟨t, ht⟩ := Int.dvd_of_emod_eq_zero e0
    obtain ⟨t', ht'⟩ := Int.dvd_of_emod_eq_zero hcong
    exact ⟨t + t', by rw [Int.mul_add]; omega⟩
  obtain ⟨c0, hc0⟩ : ∃ c0 : Int, (B : Int) * B - D = 4 * h * c0 := by
    have g1 := Int.natCast_dvd_natCast.mpr (Nat.dvd_of_mod_eq_zero k3)
    rw [Int.natCast_mul, Int.natCast_add, Int.natCast_mul, Int.toNat_of_nonneg (by omega)] at g1
    obtain ⟨t, ht⟩ := g1
    exact ⟨t, by rw [show ((4 : Nat) : Int) = 4 from rfl] at ht; omega⟩
  obtain ⟨w, u, hbez⟩ := q_bez A1 g A1 (Nat.le_refl _) hco
  have stop : ∀ (t : Nat) (N : Nat), t < g → (b1 + 2 * A1 * t - b') % (2 * g) = 0 → ∃ w1 w2 w3 w4 w5 w6 w7 : Int64, f_X4_product_L27 (zi D) (zi (pu_list D).length) la lb lc (zj A1) (zj g) (zj b') (N + 1) (zj (b1 + 2 * A1 * t)) = some (zi T, w1, w2, w3, w4, w5, w6, w7) := by
    intro t N ht hc
    obtain ⟨m, hm⟩ := Int.dvd_of_emod_eq_zero hc
    -- the same number modulo 2 * h
    have e1 : (A1 : Int) * (t - tau) = g * (m - sig) := by
      have : 2 * ((A1 : Int) * (t - tau)) = 2 * (g * (m - sig)) := by grind
      omega
    obtain ⟨q, hq⟩ : ∃ q : Int, (t : Int) - tau = g * q := by
      refine ⟨w * (t - tau) - u * (m - sig), ?_⟩
      have : ((t : Int) - tau) * (g * w - u * A1) = (t - tau) * 1 := by rw [hbez]
      grind
    have hB : b1 + 2 * A1 * (t : Int) = B + 2 * h * q := by rw [hhz]; grind
    have hC : (b1 + 2 * A1 * (t : Int)) * (b1 + 2 * A1 * t) - D = 4 * h * (c0 + q * B + h * q * q) := by rw [hB]; grind
    obtain ⟨BB, hBB⟩ : ∃ BB : Int, BB = b1 + 2 * A1 * (t : Int) := ⟨_, rfl⟩
    obtain ⟨C, hCC⟩ : ∃ C : Int, C = c0 + q * B + h * q * q := ⟨_, rfl⟩
    rw [← hBB, ← hCC] at hC
    rw [← hBB] at hB hc ⊢
    have ht2 : (A1 : Int) * t ≤ A1 * (g - 1) := Int.mul_le_mul_of_nonneg_left (by omega) (by omega)
    have ht3 : (A1 : Int) * (g - 1) = h - A1 := by rw [hhz]; grind
    have ht4 : 0 ≤ (A1 : Int) * t := Int.mul_nonneg (by omega) (by omega)
    have ht5 : 2 * (A1 : Int) * t = 2 * ((A1 : Int) * t) := Int.mul_assoc _ _ _
    have hBb : -26 ≤ BB ∧ BB ≤ 26 + 2 * h := by omega
    obtain ⟨n1, n2⟩ := mulb (show -(26 + 2 * (h : Int)) ≤ BB by omega) (show BB ≤ 26 + 2 * h by omega) (show -(26 + 2 * (h : Int)) ≤ BB by omega) (show BB ≤ 26 + 2 * h by omega)
    have n3 : (26 + 2 * (h : Int)) * (26 + 2 * h) = 676 + 104 * h + 4 * (h * h) := by grind
    obtain ⟨n4, n5⟩ := mulb (show -182000 ≤ (h : Int) by omega) (show (h : Int) ≤ 182000 by omega) (show -182000 ≤ (h : Int) by omega) (show (h : Int) ≤ 182000 by omega)
    have hCp : 0 < C := rd_pos h BB C (by omega) (by omega)
    have hCl : C ≤ h + 695 := by
      have : 4 * (h : Int) * C ≤ 4 * h * (h + 695) := by
        have : 4 * (h : Int) * (h + 695) = 4 * (h * h) + 2780 * h := by grind
        omega
      exact Int.le_of_mul_le_mul_left this (by omega)
    obtain ⟨n, x, y, z, P, Q, R, S, hTT, hn, r1, r2, g1, g2, g3, g4, g5⟩ := q_reduce 18 (by omega) h BB C (by omega) (by omega) (by omega) (by omega) (by omega) (by omega) (by omega)
    have hrn := rd_rN (-D).toNat (by omega) x y z n h BB C 40 hTT (by omega) (by omega) (by omega)
    have htt : tt h BB = B % (2 * h) := by
      apply Int.ofNat_inj.mp
      rw [tt_cast h BB (by omega), hB, Int.add_mul_emod_self_left, Int.natCast_emod, Int.natCast_mul]; rfl
    rw [show (h : Int).toNat = h from rfl, htt, hkey] at hrn
    obtain ⟨i1, i2, i3⟩ := g_key D hD T hT x y z g2 g1 (by omega) hrn.symm
    have hcls := (q_cls D hD la lb lc H h40 x y z (by omega) (by omega) (by unfold rd_done at g1; omega) (by unfold rd_done at g1; omega) (by unfold rd_done at g1; omega) (by omega)).1 T hT i1 i2 i3
    have hmm := Int.emod_nonneg (BB - b') (show 2 * (g : Int) ≠ 0 by omega)
    refine ⟨zj x, zj y, zj z, P, Q, R, S, ?_⟩
    rw [f_X4_product_L27, zj2, zj_mul, e_g (by rw [show (0 : Int64) = zj 0 from rfl, zj_eq (by omega) (by omega) (by omega) (by omega)]; omega), zj_sub, zj_rem (by omega) (by omega) (by omega) (by omega), show (BB - b').tmod (2 * (g : Int)) = 0 from (tm0 _ _).mpr hc, if_pos (show zj 0 = (0 : Int64) from rfl), zi_zj (by omega) (by omega), zj4, zj_mul, zj_mul, zj_mul, zj_mul, zj_sub, show 4 * (A1 : Int) * g = 4 * h by rw [hhz, Int.mul_assoc], show (A1 : Int) * g = h from hhz.symm, e_g (by rw [show (0 : Int64) = zj 0 from rfl, zj_eq (by omega) (by omega) (by omega) (by omega)]; omega), zj_div (by omega) (by omega) (by omega) (by omega), hC, Int.mul_tdiv_cancel_left _ (by omega), f_X4_begin, e_b7, r2, e_b8, hcls, e_b1]
  -- the loop
  have loop : ∀ (j : Nat) (t0 t N : Nat), t + j = t0 → t0 < g → (b1 + 2 * A1 * (t0 : Int) - b') % (2 * g) = 0 → j < N → ∃ w1 w2 w3 w4 w5 w6 w7 : Int64, f_X4_product_L27 (zi D) (zi (pu_list D).length) la lb lc (zj A1) (zj g) (zj b') N (zj (b1 + 2 * A1 * t)) = some (zi T, w1, w2, w3, w4, w5, w6, w7) := by
    intro j
    induction j with
    | zero =>
      intro t0 t N h1 h2 h3 h4
      obtain ⟨N, rfl⟩ : ∃ m, N = m + 1 := ⟨N - 1, by omega⟩
      obtain rfl : t = t0 := by omega
      exact stop t N h2 h3
    | succ j ih =>
      intro t0 t N h1 h2 h3 h4
      obtain ⟨N, rfl⟩ : ∃ m, N = m + 1 := ⟨N - 1, by omega⟩
      by_cases hc : (b1 + 2 * A1 * (t : Int) - b') % (2 * g) = 0
      · exact stop t N (by omega) hc
      · obtain ⟨w1, w2, w3, w4, w5, w6, w7, r⟩ := ih t0 (t + 1) N (by omega) h2 h3 (by omega)
        refine ⟨w1, w2, w3, w4, w5, w6, w7, ?_⟩
        obtain ⟨p1, p2⟩ := mulb (show -26 ≤ (A1 : Int) by omega) (show (A1 : Int) ≤ 26 by omega) (show -7000 ≤ (t : Int) by omega) (show (t : Int) ≤ 7000 by omega)
        have ht5 : 2 * (A1 : Int) * t = 2 * ((A1 : Int) * t) := Int.mul_assoc _ _ _
        have g1 := Int.emod_nonneg (b1 + 2 * A1 * (t : Int) - b') (show 2 * (g : Int) ≠ 0 by omega)
        have g2 := Int.emod_lt_of_pos (b1 + 2 * A1 * (t : Int) - b') (show 0 < 2 * (g : Int) by omega)
        have g3 : -1000000 ≤ (b1 + 2 * A1 * (t : Int) - b').tmod (2 * g) ∧ (b1 + 2 * A1 * (t : Int) - b').tmod (2 * g) ≤ 1000000 := by
          rcases q_tm (b1 + 2 * A1 * (t : Int) - b') (2 * g) (by omega) with ⟨h, e1, e2⟩ | ⟨h, e1, e3, e2⟩ | ⟨h, e1, e3, e2⟩ <;> omega
        rw [f_X4_product_L27, zj2, zj_mul, e_g (by rw [show (0 : Int64) = zj 0 from rfl, zj_eq (by omega) (by omega) (by omega) (by omega)]; omega), zj_sub, zj_rem (by omega) (by omega) (by omega) (by omega), show (0 : Int64) = zj 0 from rfl, if_neg (by rw [zj_eq (by omega) (by omega) (by omega) (by omega), tm0]; exact hc), e_let, zj_mul, zj_add, show b1 + 2 * A1 * (t : Int) + 2 * A1 = b1 + 2 * A1 * ((t + 1 : Nat) : Int) by rw [Int.natCast_add]; grind]
        exact r
  have m1 := Int.emod_nonneg tau (show (g : Int) ≠ 0 by omega)
  have m2 := Int.emod_lt_of_pos tau (show 0 < (g : Int) by omega)
  have m3 := Int.mul_ediv_add_emod tau g
  obtain ⟨t0, ht0⟩ : ∃ t0 : Nat, (t0 : Int) = tau % g := ⟨(tau % g).toNat, by omega⟩
  have hfin : (b1 + 2 * A1 * (t0 : Int) - b') % (2 * g) = 0 := by
    apply Int.emod_eq_zero_of_dvd
    refine ⟨sig - A1 * (tau / g), ?_⟩
    rw [ht0]
    generalize tau / (g : Int) = q at *
    generalize tau % (g : Int) = r at *
    rw [← m3] at htau
    grind
  have := loop t0 t0 0 100000 (by omega) (by omega) hfin (by omega)
  rw [show b1 + 2 * (A1 : Int) * ((0 : Nat) : Int) = b1 by omega] at this
  exact this
