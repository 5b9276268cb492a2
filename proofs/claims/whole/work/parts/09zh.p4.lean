theorem cong0 {b0 b' g s : Int} (h : b0 - b' = 2 * g * (-s)) : (b0 - b') % (2 * g) = 0 := by rw [h]; exact Int.mul_emod_right _ _
theorem tryN_t {f g yes no : Nat} (h : Nat.gcd g f = 1) : tryN f g yes no = yes := by unfold tryN; rw [b_true h]; rfl
theorem tryN_f {f g yes no : Nat} (h : ¬ Nat.gcd g f = 1) : tryN f g yes no = no := by unfold tryN; rw [b_false h]; rfl
theorem aq_eq (a b c : Int) (A1 g x y : Nat) (h : vq a b c x y = (g : Int)) : aq a b c (A1 : Int) x y = decide (Nat.gcd g A1 = 1) := by unfold aq; rw [h]; rfl
theorem q_fin (D : Int) (hD : pu_ok D) (h40 : (pu_list D).length ≤ 40) (la lb lc : Nat → Int64) (H : hl4 (pu_list D) la lb lc) (ta tb tc tp tq tr ts : Int64) (j k : Nat) (hj : j < (pu_list D).length) (hk : k < (pu_list D).length) (A1 : Nat) (hA1 : (pu_at D j).1 = A1) (x y : Nat) (hx : x ≤ 3) (hy : y ≤ 3) (hxy : Nat.gcd x y = 1) (X Y : Int) (hX : (x : Int) = X) (hY : (y : Int) = Y)
    (hsc : sc3 (aw (aq (pu_at D k).1 (pu_at D k).2.1 (pu_at D k).2.2 A1)) 99 1 = some (x, y)) (g b0 : Nat) (hgv : (g : Int) = (pu_at D k).1 * X * X + (pu_at D k).2.1 * X * Y + (pu_at D k).2.2 * Y * Y) (hg0 : 0 < g) (hg1 : g ≤ 7000) (hco : Nat.gcd g A1 = 1)
    (hb0 : ∀ u w : Int, X * w - u * Y = 1 → ((b0 : Int) - (2 * (pu_at D k).1 * X * u + (pu_at D k).2.1 * (X * w + u * Y) + 2 * (pu_at D k).2.2 * Y * w)) % (2 * g) = 0)
    (hkey : endN (-D).toNat A1 (tt A1 (pu_at D j).2.1) g b0 = (pu_at D (gT D j k)).1.toNat * 64 + tt (pu_at D (gT D j k)).1 (pu_at D (gT D j k)).2.1) :
    ∃ w1 w2 w3 w4 w5 w6 w7 : Int64, f_X4_product (zi D) (zi (pu_list D).length) la lb lc ta tb tc tp tq tr ts (zi j) (zi k) = some (zi (gT D j k), w1, w2, w3, w4, w5, w6, w7) := by
  have hlt := (g_facts D hD h40).1 j k hj hk
  obtain ⟨u1, u2, u3, u4, u5, u6, u7, u8⟩ := pu_at_sz D hD j hj
  obtain ⟨v1, v2, v3, v4, v5, v6, v7, v8⟩ := pu_at_sz D hD k hk
  obtain ⟨s1, s2, _⟩ := H j hj (by omega)
  have s1 : la j = zj (pu_at D j).1 := s1
  have s2 : lb j = zj (pu_at D j).2.1 := s2
  obtain ⟨s4, s5, s6⟩ := H k hk (by omega)
  have s4 : la k = zj (pu_at D k).1 := s4
  have s5 : lb k = zj (pu_at D k).2.1 := s5
  have s6 : lc k = zj (pu_at D k).2.2 := s6
  have hni : (zi (j : Int)).toNatClampNeg = j := by rw [zi_nat (by omega) (by omega)]; omega
  have hgj : ¬ (zi (j : Int) < 0 ∨ 40 ≤ (zi (j : Int)).toNatClampNeg) := by rw [zi0, zi_lt (by omega) (by omega) (by omega) (by omega), hni]; omega
  rw [hA1] at s1 u1 u2
  obtain ⟨w', u', r1, r2, r3, r4, r5, r6⟩ := q_cmp (zj (pu_at D k).1) (zj (pu_at D k).2.1) (zj (pu_at D k).2.2) 1 0 0 1 x y (by omega) (by omega) hxy
  have haw := q_aw3 la lb lc ta tb tc tp tq tr ts k (by omega) (pu_at D k).1 (pu_at D k).2.1 (pu_at D k).2.2 A1 s4 s5 s6 (by omega) (by omega) (by omega) (by omega) (by omega) (by omega) (by omega) (by omega) 99 1 100000 (by omega) (by omega)
  rw [hsc, om_some] at haw
  have haw : f_X4_away la lb lc ta tb tc tp tq tr ts (zi k) (zj A1) = f_X4_complete (zj (pu_at D k).1) (zj (pu_at D k).2.1) (zj (pu_at D k).2.2) 1 0 0 1 (zj x) (zj y) := haw
  rw [r6, hX, hY] at haw
  rw [hX, hY] at r1
  rw [f_X4_product, e_g hgj, hni, s1, s2, e_let, haw, f_X4_apply]
  simp only [e_let, zj2, zj_mul, zj_add, e_b7]
  rw [e_g (show ¬ (zi (j : Int) < 0 ∨ 40 ≤ j) by rw [hni] at hgj; exact hgj), ← hgv]
  have hxb : 0 ≤ X ∧ X ≤ 3 := by omega
  have hyb : 0 ≤ Y ∧ Y ≤ 3 := by omega
  generalize (pu_at D k).1 = a at *
  generalize (pu_at D k).2.1 = b at *
  generalize (pu_at D k).2.2 = c at *
  have d1 := mulb (show -52 ≤ 2 * a by omega) (show 2 * a ≤ 52 by omega) (show -3 ≤ X by omega) (show X ≤ 3 by omega)
  have d2 := mulb (show -156 ≤ 2 * a * X by omega) (show 2 * a * X ≤ 156 by omega) (show -20000 ≤ u' by omega) (show u' ≤ 20000 by omega)
  have d3 := mulb (show -3 ≤ X by omega) (show X ≤ 3 by omega) (show -101 ≤ w' by omega) (show w' ≤ 101 by omega)
  have d4 := mulb (show -20000 ≤ u' by omega) (show u' ≤ 20000 by omega) (show -3 ≤ Y by omega) (show Y ≤ 3 by omega)
  have d5 := mulb (show -26 ≤ b by omega) (show b ≤ 26 by omega) (show -70000 ≤ X * w' + u' * Y by omega) (show X * w' + u' * Y ≤ 70000 by omega)
  have d6 := mulb (show -1400 ≤ 2 * c by omega) (show 2 * c ≤ 1400 by omega) (show -3 ≤ Y by omega) (show Y ≤ 3 by omega)
  have d7 := mulb (show -4200 ≤ 2 * c * Y by omega) (show 2 * c * Y ≤ 4200 by omega) (show -101 ≤ w' by omega) (show w' ≤ 101 by omega)
  unfold rd_done at u8
  exact q_end D hD h40 la lb lc H A1 (pu_at D j).2.1 (by omega) (by omega) (by omega) (by omega) (gT D j k) hlt g b0 _ hg0 hg1 hco (by omega) (by omega) (hb0 u' w' r1) hkey
theorem q_prod4 (D : Int) (hD : pu_ok D) (h40 : (pu_list D).length ≤ 40) (la lb lc : Nat → Int64) (H : hl4 (pu_list D) la lb lc) (ta tb tc tp tq tr ts : Int64) (j k : Nat) (hj : j < (pu_list D).length) (hk : k < (pu_list D).length) :
    ∃ w1 w2 w3 w4 w5 w6 w7 : Int64, f_X4_product (zi D) (zi (pu_list D).length) la lb lc ta tb tc tp tq tr ts (zi j) (zi k) = some (zi (gT D j k), w1, w2, w3, w4, w5, w6, w7) := by
  have hlt := (g_facts D hD h40).1 j k hj hk
  have hkey := (g_prod D hD h40 j k hj hk).2
  have szT := pu_at_sz D hD _ hlt
  obtain ⟨u1, u2, u3, u4, u5, u6, u7, u8⟩ := pu_at_sz D hD j hj
  obtain ⟨v1, v2, v3, v4, v5, v6, v7, v8⟩ := pu_at_sz D hD k hk
  have fin := q_fin D hD h40 la lb lc H ta tb tc tp tq tr ts j k hj hk
  obtain ⟨A1, hA1⟩ : ∃ A : Nat, (pu_at D j).1 = A := ⟨(pu_at D j).1.toNat, by omega⟩
  have fin := fin A1 hA1
  rw [hA1] at u1 u2 u8 hkey
  have sc := sc_first (aq (pu_at D k).1 (pu_at D k).2.1 (pu_at D k).2.2 A1)
  generalize (pu_at D j).2.1 = b1 at *
  obtain ⟨A, hA⟩ : ∃ A : Nat, (pu_at D k).1 = A := ⟨(pu_at D k).1.toNat, by omega⟩
  obtain ⟨C, hC⟩ : ∃ A : Nat, (pu_at D k).2.2 = A := ⟨(pu_at D k).2.2.toNat, by omega⟩
  rw [hA, hC] at hkey v8 sc fin
  rw [hA] at v1 v2 v7
  rw [hC] at v5 v6 v7
  generalize (pu_at D k).2.1 = b at *
  rw [show ((A1 : Int).toNat) = A1 from rfl, show ((A : Int).toNat) = A from rfl, show ((C : Int).toNat) = C from rfl] at hkey
  unfold rd_done at v8
  obtain ⟨t, ht⟩ : ∃ t, t = tt A b := ⟨_, rfl⟩
  have htb : (0 ≤ b ∧ (t : Int) = b ∧ t ≤ A ∧ Nat.ble t A = true) ∨ (b < 0 ∧ (t : Int) = b + 2 * A ∧ A < t ∧ Nat.ble t A = false) := by
    rcases (show b < 0 ∨ 0 ≤ b by omega) with h | h
    · have e := tt_neg (a := (A : Int)) h (by omega) (by omega)
      right
      exact ⟨h, by omega, by omega, by rw [← Bool.not_eq_true, Nat.ble_eq]; omega⟩
    · have e := tt_pos (a := (A : Int)) h (by omega) (by omega)
      left
      exact ⟨h, by omega, by omega, by rw [Nat.ble_eq]; omega⟩
  rw [← ht] at hkey
  unfold rpN at hkey
  simp only [nst_eq] at hkey
  have q0 : vq A b C 0 1 = ((C : Nat) : Int) := by unfold vq; grind
  by_cases c0 : Nat.gcd C A1 = 1
  · rw [aq_eq A b C A1 _ 0 1 q0] at sc
    rw [if_pos (by simp [c0])] at sc
    rw [tryN_t c0] at hkey
    refine fin 0 1 (by omega) (by omega) (by decide) 0 1 rfl rfl sc C (cond (Nat.ble t A) (2 * C - t) (2 * A - t)) (by grind) (by omega) (by omega) c0 (fun u w huw => ?_) hkey
    obtain rfl : u = -1 := by omega
    rcases htb with ⟨h, e, _, e2⟩ | ⟨h, e, _, e2⟩
    · rw [e2]
      refine cong0 (s := w - 1) ?_
      rw [show ((cond true (2 * C - t) (2 * A - t) : Nat) : Int) = 2 * C - b by simp only [cond_true]; omega]
      grind
    · rw [e2]
      refine cong0 (s := w) ?_
      rw [show ((cond false (2 * C - t) (2 * A - t) : Nat) : Int) = -b by simp only [cond_false]; omega]
      grind
  have n0 := aq_eq A b C A1 _ 0 1 q0
  rw [n0] at sc
  have q1 : vq A b C 1 0 = ((A : Nat) : Int) := by unfold vq; grind
  by_cases c1 : Nat.gcd A A1 = 1
  · rw [aq_eq A b C A1 _ 1 0 q1] at sc
    rw [if_neg (by simp [c0]), if_pos (by simp [c1])] at sc
    rw [tryN_f c0, tryN_t c1] at hkey
    refine fin 1 0 (by omega) (by omega) (by decide) 1 0 rfl rfl sc A t (by grind) (by omega) (by omega) c1 (fun u w huw => ?_) hkey
    obtain rfl : w = 1 := by omega
    rcases htb with ⟨h, e, _, e2⟩ | ⟨h, e, _, e2⟩
    · refine cong0 (s := u) ?_
      rw [e]
      grind
    · refine cong0 (s := u - 1) ?_
      rw [e]
      grind
  have n1 := aq_eq A b C A1 _ 1 0 q1
  rw [n1] at sc
  have w2 : ((valN A t C 1 1 : Nat) : Int) = A * 1 * 1 + b * 1 * 1 + C * 1 * 1 := by
    unfold valN
    simp only [Nat.add_eq, Nat.mul_eq, Nat.sub_eq]
    rcases htb with ⟨h, e, _, e2⟩ | ⟨h, e, _, e2⟩
    · rw [e2]; simp only [cond_true]; omega
    · rw [e2]; simp only [cond_false]; omega
  have q2 : vq A b C 1 1 = ((valN A t C 1 1 : Nat) : Int) := by
    rw [w2]; unfold vq; grind
  by_cases c2 : Nat.gcd (valN A t C 1 1) A1 = 1
  · rw [aq_eq A b C A1 _ 1 1 q2] at sc
    rw [if_neg (by simp [c0]), if_neg (by simp [c1]), if_pos (by simp [c2])] at sc
    rw [tryN_f c0, tryN_f c1, tryN_t c2] at hkey
    refine fin 1 1 (by omega) (by omega) (by decide) 1 1 rfl rfl sc (valN A t C 1 1) (mdlN A t C 1 1 0 1) (by rw [w2]) (by omega) (by omega) c2 (fun u w huw => ?_) hkey
    obtain ⟨s, hu, hw⟩ : ∃ s : Int, u = 0 + 1 * s ∧ w = 1 + 1 * s := ⟨u, by omega, by omega⟩
    have hm : ((mdlN A t C 1 1 0 1 : Nat) : Int) = 0 * A + 1 * b + 2 * C := by
      unfold mdlN
      simp only [Nat.add_eq, Nat.mul_eq, Nat.sub_eq]
      rcases htb with ⟨h, e, _, e2⟩ | ⟨h, e, _, e2⟩
      · rw [e2]; simp only [cond_true]; omega
      · rw [e2]; simp only [cond_false]; omega
    refine cong0 (s := s) ?_
    rw [hm, w2, hu, hw]
    grind
  have n2 := aq_eq A b C A1 _ 1 1 q2
  rw [n2] at sc
  have w3 : ((valN A t C 1 2 : Nat) : Int) = A * 1 * 1 + b * 1 * 2 + C * 2 * 2 := by
    unfold valN
    simp only [Nat.add_eq, Nat.mul_eq, Nat.sub_eq]
    rcases htb with ⟨h, e, _, e2⟩ | ⟨h, e, _, e2⟩
    · rw [e2]; simp only [cond_true]; omega
    · rw [e2]; simp only [cond_false]; omega
  have q3 : vq A b C 1 2 = ((valN A t C 1 2 : Nat) : Int) := by
    rw [w3]; unfold vq; grind
  by_cases c3 : Nat.gcd (valN A t C 1 2) A1 = 1
  · rw [aq_eq A b C A1 _ 1 2 q3] at sc
    rw [if_neg (by simp [c0]), if_neg (by simp [c1]), if_neg (by simp [c2]), if_pos (by simp [c3])] at sc
    rw [tryN_f c0, tryN_f c1, tryN_f c2, tryN_t c3] at hkey
    refine fin 1 2 (by omega) (by omega) (by decide) 1 2 rfl rfl sc (valN A t C 1 2) (mdlN A t C 1 2 0 1) (by rw [w3]) (by omega) (by omega) c3 (fun u w huw => ?_) hkey
    obtain ⟨s, hu, hw⟩ : ∃ s : Int, u = 0 + 1 * s ∧ w = 1 + 2 * s := ⟨u, by omega, by omega⟩
    have hm : ((mdlN A t C 1 2 0 1 : Nat) : Int) = 0 * A + 1 * b + 4 * C := by
      unfold mdlN
      simp only [Nat.add_eq, Nat.mul_eq, Nat.sub_eq]
      rcases htb with ⟨h, e, _, e2⟩ | ⟨h, e, _, e2⟩
      · rw [e2]; simp only [cond_true]; omega
      · rw [e2]; simp only [cond_false]; omega
    refine cong0 (s := s) ?_
    rw [hm, w3, hu, hw]
    grind
  have n3 := aq_eq A b C A1 _ 1 2 q3
  rw [n3] at sc
  have w4 : ((valN A t C 2 1 : Nat) : Int) = A * 2 * 2 + b * 2 * 1 + C * 1 * 1 := by
    unfold valN
    simp only [Nat.add_eq, Nat.mul_eq, Nat.sub_eq]
    rcases htb with ⟨h, e, _, e2⟩ | ⟨h, e, _, e2⟩
    · rw [e2]; simp only [cond_true]; omega
    · rw [e2]; simp only [cond_false]; omega
  have q4 : vq A b C 2 1 = ((valN A t C 2 1 : Nat) : Int) := by
    rw [w4]; unfold vq; grind
  by_cases c4 : Nat.gcd (valN A t C 2 1) A1 = 1
  · rw [aq_eq A b C A1 _ 2 1 q4] at sc
    rw [if_neg (by simp [c0]), if_neg (by simp [c1]), if_neg (by simp [c2]), if_neg (by simp [c3]), if_pos (by simp [c4])] at sc
    rw [tryN_f c0, tryN_f c1, tryN_f c2, tryN_f c3, tryN_t c4] at hkey
    refine fin 2 1 (by omega) (by omega) (by decide) 2 1 rfl rfl sc (valN A t C 2 1) (mdlN A t C 2 1 1 1) (by rw [w4]) (by omega) (by omega) c4 (fun u w huw => ?_) hkey
    obtain ⟨s, hu, hw⟩ : ∃ s : Int, u = 1 + 2 * s ∧ w = 1 + 1 * s := ⟨w - 1, by omega, by omega⟩
    have hm : ((mdlN A t C 2 1 1 1 : Nat) : Int) = 4 * A + 3 * b + 2 * C := by
      unfold mdlN
      simp only [Nat.add_eq, Nat.mul_eq, Nat.sub_eq]
      rcases htb with ⟨h, e, _, e2⟩ | ⟨h, e, _, e2⟩
      · rw [e2]; simp only [cond_true]; omega
      · rw [e2]; simp only [cond_false]; omega
    refine cong0 (s := s) ?_
    rw [hm, w4, hu, hw]
    grind
  have n4 := aq_eq A b C A1 _ 2 1 q4
  rw [n4] at sc
  have w5 : ((valN A t C 1 3 : Nat) : Int) = A * 1 * 1 + b * 1 * 3 + C * 3 * 3 := by
    unfold valN
    simp only [Nat.add_eq, Nat.mul_eq, Nat.sub_eq]
    rcases htb with ⟨h, e, _, e2⟩ | ⟨h, e, _, e2⟩
    · rw [e2]; simp only [cond_true]; omega
    · rw [e2]; simp only [cond_false]; omega
  have q5 : vq A b C 1 3 = ((valN A t C 1 3 : Nat) : Int) := by
    rw [w5]; unfold vq; grind
  by_cases c5 : Nat.gcd (valN A t C 1 3) A1 = 1
  · rw [aq_eq A b C A1 _ 1 3 q5] at sc
    rw [if_neg (by simp [c0]), if_neg (by simp [c1]), if_neg (by simp [c2]), if_neg (by simp [c3]), if_neg (by simp [c4]), if_pos (by simp [c5])] at sc
    rw [tryN_f c0, tryN_f c1, tryN_f c2, tryN_f c3, tryN_f c4, tryN_t c5] at hkey
    refine fin 1 3 (by omega) (by omega) (by decide) 1 3 rfl rfl sc (valN A t C 1 3) (mdlN A t C 1 3 0 1) (by rw [w5]) (by omega) (by omega) c5 (fun u w huw => ?_) hkey
    obtain ⟨s, hu, hw⟩ : ∃ s : Int, u = 0 + 1 * s ∧ w = 1 + 3 * s := ⟨u, by omega, by omega⟩
    have hm : ((mdlN A t C 1 3 0 1 : Nat) : Int) = 0 * A + 1 * b + 6 * C := by
      unfold mdlN
      simp only [Nat.add_eq, Nat.mul_eq, Nat.sub_eq]
      rcases htb with ⟨h, e, _, e2⟩ | ⟨h, e, _, e2⟩
      · rw [e2]; simp only [cond_true]; omega
      · rw [e2]; simp only [cond_false]; omega
    refine cong0 (s := s) ?_
    rw [hm, w5, hu, hw]
    grind
  have n5 := aq_eq A b C A1 _ 1 3 q5
  rw [n5] at sc
  have w6 : ((valN A t C 2 3 : Nat) : Int) = A * 2 * 2 + b * 2 * 3 + C * 3 * 3 := by
    unfold valN
    simp only [Nat.add_eq, Nat.mul_eq, Nat.sub_eq]
    rcases htb with ⟨h, e, _, e2⟩ | ⟨h, e, _, e2⟩
    · rw [e2]; simp only [cond_true]; omega
    · rw [e2]; simp only [cond_false]; omega
  have q6 : vq A b C 2 3 = ((valN A t C 2 3 : Nat) : Int) := by
    rw [w6]; unfold vq; grind
  by_cases c6 : Nat.gcd (valN A t C 2 3) A1 = 1
  · rw [aq_eq A b C A1 _ 2 3 q6] at sc
    rw [if_neg (by simp [c0]), if_neg (by simp [c1]), if_neg (by simp [c2]), if_neg (by simp [c3]), if_neg (by simp [c4]), if_neg (by simp [c5]), if_pos (by simp [c6])] at sc
    rw [tryN_f c0, tryN_f c1, tryN_f c2, tryN_f c3, tryN_f c4, tryN_f c5, tryN_t c6] at hkey
    refine fin 2 3 (by omega) (by omega) (by decide) 2 3 rfl rfl sc (valN A t C 2 3) (mdlN A t C 2 3 1 2) (by rw [w6]) (by omega) (by omega) c6 (fun u w huw => ?_) hkey
    obtain ⟨s, hu, hw⟩ : ∃ s : Int, u = 1 + 2 * s ∧ w = 2 + 3 * s := ⟨w - u - 1, by omega, by omega⟩
    have hm : ((mdlN A t C 2 3 1 2 : Nat) : Int) = 4 * A + 7 * b + 12 * C := by
      unfold mdlN
      simp only [Nat.add_eq, Nat.mul_eq, Nat.sub_eq]
      rcases htb with ⟨h, e, _, e2⟩ | ⟨h, e, _, e2⟩
      · rw [e2]; simp only [cond_true]; omega
      · rw [e2]; simp only [cond_false]; omega
    refine cong0 (s := s) ?_
    rw [hm, w6, hu, hw]
    grind
  have n6 := aq_eq A b C A1 _ 2 3 q6
  rw [n6] at sc
  have w7 : ((valN A t C 3 1 : Nat) : Int) = A * 3 * 3 + b * 3 * 1 + C * 1 * 1 := by
    unfold valN
    simp only [Nat.add_eq, Nat.mul_eq, Nat.sub_eq]
    rcases htb with ⟨h, e, _, e2⟩ | ⟨h, e, _, e2⟩
    · rw [e2]; simp only [cond_true]; omega
    · rw [e2]; simp only [cond_false]; omega
  have q7 : vq A b C 3 1 = ((valN A t C 3 1 : Nat) : Int) := by
    rw [w7]; unfold vq; grind
  by_cases c7 : Nat.gcd (valN A t C 3 1) A1 = 1
  · rw [aq_eq A b C A1 _ 3 1 q7] at sc
    rw [if_neg (by simp [c0]), if_neg (by simp [c1]), if_neg (by simp [c2]), if_neg (by simp [c3]), if_neg (by simp [c4]), if_neg (by simp [c5]), if_neg (by simp [c6]), if_pos (by simp [c7])] at sc
    rw [tryN_f c0, tryN_f c1, tryN_f c2, tryN_f c3, tryN_f c4, tryN_f c5, tryN_f c6, tryN_t c7] at hkey
    refine fin 3 1 (by omega) (by omega) (by decide) 3 1 rfl rfl sc (valN A t C 3 1) (mdlN A t C 3 1 2 1) (by rw [w7]) (by omega) (by omega) c7 (fun u w huw => ?_) hkey
    obtain ⟨s, hu, hw⟩ : ∃ s : Int, u = 2 + 3 * s ∧ w = 1 + 1 * s := ⟨w - 1, by omega, by omega⟩
    have hm : ((mdlN A t C 3 1 2 1 : Nat) : Int) = 12 * A + 5 * b + 2 * C := by
      unfold mdlN
      simp only [Nat.add_eq, Nat.mul_eq, Nat.sub_eq]
      rcases htb with ⟨h, e, _, e2⟩ | ⟨h, e, _, e2⟩
      · rw [e2]; simp only [cond_true]; omega
      · rw [e2]; simp only [cond_false]; omega
    refine cong0 (s := s) ?_
    rw [hm, w7, hu, hw]
    grind
  have n7 := aq_eq A b C A1 _ 3 1 q7
  rw [n7] at sc
  have w8 : ((valN A t C 3 2 : Nat) : Int) = A * 3 * 3 + b * 3 * 2 + C * 2 * 2 := by
    unfold valN
    simp only [Nat.add_eq, Nat.mul_eq, Nat.sub_eq]
    rcases htb with ⟨h, e, _, e2⟩ | ⟨h, e, _, e2⟩
    · rw [e2]; simp only [cond_true]; omega
    · rw [e2]; simp only [cond_false]; omega
  have q8 : vq A b C 3 2 = ((valN A t C 3 2 : Nat) : Int) := by
    rw [w8]; unfold vq; grind
  by_cases c8 : Nat.gcd (valN A t C 3 2) A1 = 1
  · rw [aq_eq A b C A1 _ 3 2 q8] at sc
    rw [if_neg (by simp [c0]), if_neg (by simp [c1]), if_neg (by simp [c2]), if_neg (by simp [c3]), if_neg (by simp [c4]), if_neg (by simp [c5]), if_neg (by simp [c6]), if_neg (by simp [c7]), if_pos (by simp [c8])] at sc
    rw [tryN_f c0, tryN_f c1, tryN_f c2, tryN_f c3, tryN_f c4, tryN_f c5, tryN_f c6, tryN_f c7, tryN_t c8] at hkey
    refine fin 3 2 (by omega) (by omega) (by decide) 3 2 rfl rfl sc (valN A t C 3 2) (mdlN A t C 3 2 1 1) (by rw [w8]) (by omega) (by omega) c8 (fun u w huw => ?_) hkey
    obtain ⟨s, hu, hw⟩ : ∃ s : Int, u = 1 + 3 * s ∧ w = 1 + 2 * s := ⟨u - w, by omega, by omega⟩
    have hm : ((mdlN A t C 3 2 1 1 : Nat) : Int) = 6 * A + 5 * b + 4 * C := by
      unfold mdlN
      simp only [Nat.add_eq, Nat.mul_eq, Nat.sub_eq]
      rcases htb with ⟨h, e, _, e2⟩ | ⟨h, e, _, e2⟩
      · rw [e2]; simp only [cond_true]; omega
      · rw [e2]; simp only [cond_false]; omega
    refine cong0 (s := s) ?_
    rw [hm, w8, hu, hw]
    grind
  have n8 := aq_eq A b C A1 _ 3 2 q8
  rw [n8] at sc
  rw [tryN_f c0, tryN_f c1, tryN_f c2, tryN_f c3, tryN_f c4, tryN_f c5, tryN_f c6, tryN_f c7, tryN_f c8] at hkey
  have hkey : 2 = _ := hkey
  omega
