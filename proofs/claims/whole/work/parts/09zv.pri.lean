/-! prime -/
def RP (a b c : Int) (m : Nat) (v : Int) : Prop := (∃ x y, vf a b c x y = v ∧ Int.gcd x y = 1) ∧ Int.gcd v m = 1
def QP (a b c : Int) (m : Nat) (x y : Int) : Prop := 0 < vf a b c x y ∧ Int.gcd x y = 1 ∧ Int.gcd (vf a b c x y) m = 1
theorem q_p90 (la lb lc : Nat → Int64) (k : Nat) (hk : k < 40) (a b c D : Int) (h1 : la k = zj a) (h2 : lb k = zj b) (h3 : lc k = zj c) (H : fH D a b c) (Y : Nat) (hY : Y ≤ 4000) (m : Nat) (hm : 1 ≤ m) (hm' : m ≤ 500) (x : Int) (hx : -4000 ≤ x) (hx' : x ≤ 4000) (K : Int64 → Int64 → Option (Int32 × Int32 × Int64 × Int64 × Int64 × Int64 × Int64 × Int64 × Int64)) (j : Nat) :
    ∀ (y : Int) (N : Nat) (best : Int), 0 ≤ y → y + j = Y + 1 → j < N → 1 ≤ best → best ≤ 8000000 → RP a b c m best → ∃ best' : Int, f_X4_prime_L90 la lb lc (zi k) (zi m) (zj Y) (zj x) K N (zj y) (zj best) = K (zj (x + 1)) (zj best') ∧ 1 ≤ best' ∧ best' ≤ best ∧ RP a b c m best' ∧ ∀ y' : Int, y ≤ y' → y' ≤ Y → QP a b c m x y' → best' ≤ vf a b c x y' := by
  obtain ⟨ha, ha', hb, hb', hc, hc', hD, hD0, hD2, h3a, h3c⟩ := H
  induction j with
  | zero =>
    intro y N best hy hyj hN b1 b2 hR
    obtain ⟨N, rfl⟩ : ∃ m, N = m + 1 := ⟨N - 1, by omega⟩
    refine ⟨best, ?_, b1, Int.le_refl _, hR, fun y' q1 q2 _ => by omega⟩
    rw [f_X4_prime_L90, if_pos (by rw [zj_lt (by omega) (by omega) (by omega) (by omega)]; omega), h_let, zj1, zj_add]
  | succ j ih =>
    intro y N best hy hyj hN b1 b2 hR
    obtain ⟨N, rfl⟩ : ∃ m, N = m + 1 := ⟨N - 1, by omega⟩
    have hv := vf_b a b c x y (by omega) (by omega) (by omega) (by omega) (by omega) (by omega) hx hx' (by omega) (by omega)
    obtain ⟨hcom, hgb⟩ := q_comb x y hx hx' (by omega) (by omega)
    have hcv : f_X4_common (zj (vf a b c x y)) (zj m) = some (zj (Int.gcd (vf a b c x y) m : Nat)) := q_com _ m (by omega) (by omega)
    have hgn : Int.gcd (vf a b c x y) m ≤ 500 := by
      have := Nat.le_of_dvd (show 0 < (m : Int).natAbs by omega) (Int.gcd_dvd_natAbs_right (vf a b c x y) m)
      omega
    have c3 : (zj (Int.gcd x y : Nat) = 1) ↔ Int.gcd x y = 1 := by rw [zj1, zj_eq (by omega) (by omega) (by omega) (by omega)]; omega
    have c4 : (zj (Int.gcd (vf a b c x y) m : Nat) = 1) ↔ Int.gcd (vf a b c x y) m = 1 := by rw [zj1, zj_eq (by omega) (by omega) (by omega) (by omega)]; omega
    have ey : zj y + 1 = zj (y + 1) := by rw [zj1, zj_add]
    have st : f_X4_prime_L90 la lb lc (zi k) (zi m) (zj Y) (zj x) K (N + 1) (zj y) (zj best) = if vf a b c x y ≤ 0 then f_X4_prime_L90 la lb lc (zi k) (zi m) (zj Y) (zj x) K N (zj (y + 1)) (zj best) else if best ≤ vf a b c x y then f_X4_prime_L90 la lb lc (zi k) (zi m) (zj Y) (zj x) K N (zj (y + 1)) (zj best) else if Int.gcd x y = 1 then (if Int.gcd (vf a b c x y) m = 1 then f_X4_prime_L90 la lb lc (zi k) (zi m) (zj Y) (zj x) K N (zj (y + 1)) (zj (vf a b c x y)) else f_X4_prime_L90 la lb lc (zi k) (zi m) (zj Y) (zj x) K N (zj (y + 1)) (zj best)) else f_X4_prime_L90 la lb lc (zi k) (zi m) (zj Y) (zj x) K N (zj (y + 1)) (zj best) := by
      rw [f_X4_prime_L90, if_neg (by rw [zj_lt (by omega) (by omega) (by omega) (by omega)]; omega), q_at la lb lc k hk a b c h1 h2 h3 x y, h_b1]
      have d1 : (zj (vf a b c x y) ≤ 0) ↔ vf a b c x y ≤ 0 := by rw [zj0, zj_le (by omega) (by omega) (by omega) (by omega)]
      have d2 : (zj best ≤ zj (vf a b c x y)) ↔ best ≤ vf a b c x y := by rw [zj_le (by omega) (by omega) (by omega) (by omega)]
      have em : (zi (m : Int)).toInt64 = zj m := zi_zj (by omega) (by omega)
      simp only [h_let, ey, em, hcom, hcv, h_b1, c3, c4, d1, d2]
    rw [st]
    by_cases d1 : vf a b c x y ≤ 0
    · obtain ⟨b', e1, e2, e3, e4, e5⟩ := ih (y + 1) N best (by omega) (by omega) (by omega) b1 b2 hR
      rw [if_pos d1]
      refine ⟨b', e1, e2, e3, e4, fun y' q1 q2 q3 => ?_⟩
      by_cases hq : y' = y
      · subst hq; exact absurd q3.1 (by omega)
      · exact e5 y' (by omega) q2 q3
    · rw [if_neg d1]
      by_cases d2 : best ≤ vf a b c x y
      · obtain ⟨b', e1, e2, e3, e4, e5⟩ := ih (y + 1) N best (by omega) (by omega) (by omega) b1 b2 hR
        rw [if_pos d2]
        refine ⟨b', e1, e2, e3, e4, fun y' q1 q2 q3 => ?_⟩
        by_cases hq : y' = y
        · subst hq; omega
        · exact e5 y' (by omega) q2 q3
      · rw [if_neg d2]
        by_cases d3 : Int.gcd x y = 1
        · rw [if_pos d3]
          by_cases d4 : Int.gcd (vf a b c x y) m = 1
          · obtain ⟨b', e1, e2, e3, e4, e5⟩ := ih (y + 1) N (vf a b c x y) (by omega) (by omega) (by omega) (by omega) (by omega) ⟨⟨x, y, rfl, d3⟩, d4⟩
            rw [if_pos d4]
            refine ⟨b', e1, e2, by omega, e4, fun y' q1 q2 q3 => ?_⟩
            by_cases hq : y' = y
            · subst hq; exact e3
            · exact e5 y' (by omega) q2 q3
          · obtain ⟨b', e1, e2, e3, e4, e5⟩ := ih (y + 1) N best (by omega) (by omega) (by omega) b1 b2 hR
            rw [if_neg d4]
            refine ⟨b', e1, e2, e3, e4, fun y' q1 q2 q3 => ?_⟩
            by_cases hq : y' = y
            · subst hq; exact absurd q3.2.2 d4
            · exact e5 y' (by omega) q2 q3
        · obtain ⟨b', e1, e2, e3, e4, e5⟩ := ih (y + 1) N best (by omega) (by omega) (by omega) b1 b2 hR
          rw [if_neg d3]
          refine ⟨b', e1, e2, e3, e4, fun y' q1 q2 q3 => ?_⟩
          by_cases hq : y' = y
          · subst hq; exact absurd q3.2.1 d3
          · exact e5 y' (by omega) q2 q3
theorem q_p79 (la lb lc : Nat → Int64) (k : Nat) (hk : k < 40) (a b c D : Int) (h1 : la k = zj a) (h2 : lb k = zj b) (h3 : lc k = zj c) (H : fH D a b c) (X Y : Nat) (hX : X ≤ 4000) (hY : Y ≤ 4000) (m : Nat) (hm : 1 ≤ m) (hm' : m ≤ 500) (w1 w2 w3 w4 w5 w6 w7 : Int64) (j : Nat) :
    ∀ (x : Int) (N : Nat) (best : Int), -(X : Int) ≤ x → x + j = X + 1 → j < N → 1 ≤ best → best ≤ 8000000 → RP a b c m best → ∃ best' : Int, f_X4_prime_L79 la lb lc (zi k) (zi m) w1 w2 w3 w4 w5 w6 w7 (zj X) (zj Y) N (zj x) (zj best) = some (zi best', 0, w1, w2, w3, w4, w5, w6, w7) ∧ 1 ≤ best' ∧ best' ≤ best ∧ RP a b c m best' ∧ ∀ x' y' : Int, x ≤ x' → x' ≤ X → 0 ≤ y' → y' ≤ Y → QP a b c m x' y' → best' ≤ vf a b c x' y' := by
  induction j with
  | zero =>
    intro x N best hx hxj hN b1 b2 hR
    obtain ⟨N, rfl⟩ : ∃ m, N = m + 1 := ⟨N - 1, by omega⟩
    refine ⟨best, ?_, b1, Int.le_refl _, hR, fun x' y' q1 q2 _ _ _ => by omega⟩
    rw [f_X4_prime_L79, if_pos (by rw [zj_lt (by omega) (by omega) (by omega) (by omega)]; omega), zj_zi]
  | succ j ih =>
    intro x N best hx hxj hN b1 b2 hR
    obtain ⟨N, rfl⟩ : ∃ m, N = m + 1 := ⟨N - 1, by omega⟩
    obtain ⟨b', e1, e2, e3, e4, e5⟩ := q_p90 la lb lc k hk a b c D h1 h2 h3 H Y hY m hm hm' x (by omega) (by omega) (fun o0 o1 => f_X4_prime_L79 la lb lc (zi k) (zi m) w1 w2 w3 w4 w5 w6 w7 (zj X) (zj Y) N o0 o1) (Y + 1) 0 100000 best (by omega) (by omega) (by omega) b1 b2 hR
    obtain ⟨b'', g1, g2, g3, g4, g5⟩ := ih (x + 1) N b' (by omega) (by omega) (by omega) e2 (by omega) e4
    refine ⟨b'', ?_, g2, by omega, g4, fun x' y' q1 q2 q3 q4 q5 => ?_⟩
    · rw [f_X4_prime_L79, if_neg (by rw [zj_lt (by omega) (by omega) (by omega) (by omega)]; omega), zj0, e1]
      exact g1
    · by_cases hq : x' = x
      · subst hq
        have := e5 y' q3 q4 q5
        omega
      · exact g5 x' y' (by omega) q2 q3 q4 q5
theorem gg_le (a b c n : Int) (p : Nat) (x y : Int) : gg a b c n p x y ≤ 1 := by
  unfold gg; split <;> omega
theorem nn_le (a b c n : Int) (p : Nat) (X Y : Nat) (hX : X ≤ 4000) (hY : Y ≤ 4000) : nn a b c n p X Y ≤ 100000000 := by
  unfold nn
  have h1 := sm_le (fun x => sm (fun y => gg a b c n p x y) (-(Y : Int)) (2 * Y + 1)) (2 * Y + 1) (fun x => Nat.le_trans (sm_le (fun y => gg a b c n p x y) 1 (fun y => gg_le a b c n p x y) (2 * Y + 1) (-(Y : Int))) (by omega)) (2 * X + 1) (-(X : Int))
  have h2 := Nat.mul_le_mul (show 2 * X + 1 ≤ 8001 by omega) (show 2 * Y + 1 ≤ 8001 by omega)
  omega
theorem nn_pos (D a b c n : Int) (H : fH D a b c) (X Y : Nat) (B : bX D a c n X Y) : 0 < nn a b c n 1 X Y ↔ ∃ x y, vf a b c x y = n ∧ Int.gcd x y = 1 := by
  obtain ⟨ha, ha', hb, hb', hc, hc', hD, hD0, hD2, h3a, h3c⟩ := H
  unfold nn
  rw [sm_pos]
  constructor
  · intro ⟨x, x1, x2, h⟩
    obtain ⟨y, y1, y2, h⟩ := (sm_pos _ _ _).mp h
    have h : 0 < gg a b c n 1 x y := h
    unfold gg at h
    by_cases g : vf a b c x y = n ∧ (1 = 0 ∨ Int.gcd x y = 1)
    · exact ⟨x, y, g.1, g.2.elim (fun h => absurd h (by decide)) id⟩
    · rw [if_neg g] at h; exact absurd h (Nat.lt_irrefl 0)
  · intro ⟨x, y, e1, e2⟩
    obtain ⟨g1, g2, g3, g4⟩ := vf_box a b c n x y D X Y hD hD0 B.1 B.2.1 e1
    refine ⟨x, g1, by omega, (sm_pos _ _ _).mpr ⟨y, g3, by omega, ?_⟩⟩
    show 0 < gg a b c n 1 x y
    unfold gg
    rw [if_pos ⟨e1, Or.inr e2⟩]
    exact Nat.zero_lt_one
theorem q_lcv (fa fb : Nat → Int32) (h k : Nat) (hkh : k < h) (hh : h ≤ 40) (hk : k < 40) (a b c D : Int) (h1 : fa k = zi a) (h2 : fb k = zi b) (H : fH D a b c) (m : Nat) (hm : 1 ≤ m) (hm' : m ≤ 500) (B : Nat) (hB1 : 1 ≤ B) (hB2 : B ≤ 99998) (hR : RP a b c m B) (hL : ∀ v : Int, 1 ≤ v → v < B → ¬ RP a b c m v) (j : Nat) :
    ∀ (n N : Nat), 1 ≤ n → n + j = B → j < N → f_X0_leastCoprimeValue_L2 fa fb (zi D) (zi h) (zi k) (zi m) N (zi n) = some (zi B) := by
  have key : ∀ n : Nat, 1 ≤ n → n ≤ B → ∃ q : Nat, q ≤ 100000000 ∧ f_X0_countPairs fa fb (zi D) (zi h) (zi k) (zi n) 1 = some (zi q) ∧ (0 < q ↔ ∃ x y, vf a b c x y = n ∧ Int.gcd x y = 1) := by
    intro n n1 n2
    obtain ⟨X, Y, BB, _, _⟩ := b_reach D a b c n H (by omega) (by omega)
    have C := q_cp fa fb k hk a b c D n h1 h2 H X Y BB (by omega) (by omega) 1 (by omega) 100000 (by omega)
    have C' : f_X0_countPairs fa fb (zi D) (zi h) (zi k) (zi n) 1 = some (zi (nn a b c n 1 X Y : Nat)) := by
      rw [f_X0_countPairs, ((q_has h k (by omega) (by omega) (by omega) (by omega)).1 (by omega)).1, e_b1, if_neg (show ¬ (1 : Int32) = 0 by decide)]
      exact C
    exact ⟨nn a b c n 1 X Y, nn_le a b c n 1 X Y BB.2.2.2.1 BB.2.2.2.2, C', nn_pos D a b c n H X Y BB⟩
  have gk : ∀ n : Nat, 1 ≤ n → n ≤ B → f_X3_gcd (zi n) (zi m) = some (zi (Int.gcd n m : Nat)) ∧ Int.gcd n m ≤ 500 := by
    intro n n1 n2
    refine ⟨q_gcd n m (by omega) (by omega) (by omega) (by omega), ?_⟩
    have := Nat.le_of_dvd (show 0 < (m : Int).natAbs by omega) (Int.gcd_dvd_natAbs_right n m)
    omega
  induction j with
  | zero =>
    intro n N hn hj hN
    obtain ⟨N, rfl⟩ : ∃ m, N = m + 1 := ⟨N - 1, by omega⟩
    have e : n = B := by omega
    rw [e]
    obtain ⟨q, q1, q2, q3⟩ := key B hB1 (by omega)
    obtain ⟨g1, g2⟩ := gk B hB1 (by omega)
    have hq := q3.mpr hR.1
    rw [f_X0_leastCoprimeValue_L2, if_neg (by rw [zi100000, zi_lt (by omega) (by omega) (by omega) (by omega)]; omega), g1, h_b1, if_pos (by rw [hR.2]; rfl), q2, h_b1, if_neg (by rw [zi0, zi_le (by omega) (by omega) (by omega) (by omega)]; omega)]
  | succ j ih =>
    intro n N hn hj hN
    obtain ⟨N, rfl⟩ : ∃ m, N = m + 1 := ⟨N - 1, by omega⟩
    obtain ⟨q, q1, q2, q3⟩ := key n hn (by omega)
    obtain ⟨g1, g2⟩ := gk n hn (by omega)
    have J := ih (n + 1) N (by omega) (by omega) (by omega)
    rw [f_X0_leastCoprimeValue_L2, if_neg (by rw [zi100000, zi_lt (by omega) (by omega) (by omega) (by omega)]; omega), g1, h_b1]
    by_cases d : Int.gcd (n : Int) m = 1
    · have hq : q = 0 := by
        rcases Nat.eq_zero_or_pos q with h | h
        · exact h
        · exact absurd ⟨q3.mp h, d⟩ (hL n (by omega) (by omega))
      rw [if_pos (by rw [d]; rfl), q2, h_b1, if_pos (by rw [hq]; decide), h_let, w_s]
      exact J
    · rw [if_neg (by rw [zi1, zi_eq (by omega) (by omega) (by omega) (by omega)]; omega), h_let, w_s]
      exact J
theorem pu_prime (xcfa : Nat → Int32) (xcfb : Nat → Int32) (xcfc : Nat → Int32) (xcdd : Int32) (xcsz : Int32) (xlra : Int32) (xlrb : Int32) (xlrc : Int32) (xlrp : Int32) (xlrq : Int32) (xlrr : Int32) (xlrs : Int32) (xlrd : Int32) (xany : Int32) (xwrow : Nat → Int32) (xwlen : Int32) (mdd : Int32) (mn : Int32) (mla : Nat → Int64) (mlb : Nat → Int64) (mlc : Nat → Int64) (ma : Int64) (mb : Int64) (mc : Int64) (mp : Int64) (mq : Int64) (mr : Int64) (ms : Int64) (msome : Int32) (mlast : Nat → Int64) (mlet : Int32) (mwd : Nat → Int32) (hR : pu_R xcfa xcfb xcfc xcdd xcsz xany xlra xlrb xlrc xlrp xlrq xlrr xlrs xlrd xwrow xwlen mdd mn mla mlb mlc msome mlast mlet mwd) (p0 : Int32) (p1 : Int32) : (∃ (rv : Int32) (mthr' : Int32) (ma' : Int64) (mb' : Int64) (mc' : Int64) (mp' : Int64) (mq' : Int64) (mr' : Int64) (ms' : Int64), f_X3_prime xcfa xcfb xcdd xcsz p0 p1 = some (.inl rv) ∧ f_X4_prime mdd mn mla mlb mlc ma mb mc mp mq mr ms p0 p1 = some (rv, mthr', ma', mb', mc', mp', mq', mr', ms') ∧ mthr' = 0 ∧ pu_R xcfa xcfb xcfc xcdd xcsz xany xlra xlrb xlrc xlrp xlrq xlrr xlrs xlrd xwrow xwlen mdd mn mla mlb mlc msome mlast mlet mwd) ∨ (∃ (bv : Int32) (mthr' : Int32) (ma' : Int64) (mb' : Int64) (mc' : Int64) (mp' : Int64) (mq' : Int64) (mr' : Int64) (ms' : Int64), f_X3_prime xcfa xcfb xcdd xcsz p0 p1 = some (.inr (.inl ())) ∧ f_X4_prime mdd mn mla mlb mlc ma mb mc mp mq mr ms p0 p1 = some (bv, mthr', ma', mb', mc', mp', mq', mr', ms') ∧ mthr' = 1 ∧ pu_R xcfa xcfb xcfc xcdd xcsz xany xlra xlrb xlrc xlrp xlrq xlrr xlrs xlrd xwrow xwlen mdd mn mla mlb mlc msome mlast mlet mwd) ∨ (∃ (bv : Int32) (mthr' : Int32) (ma' : Int64) (mb' : Int64) (mc' : Int64) (mp' : Int64) (mq' : Int64) (mr' : Int64) (ms' : Int64), f_X3_prime xcfa xcfb xcdd xcsz p0 p1 = some (.inr (.inr ())) ∧ f_X4_prime mdd mn mla mlb mlc ma mb mc mp mq mr ms p0 p1 = some (bv, mthr', ma', mb', mc', mp', mq', mr', ms') ∧ mthr' = 2 ∧ pu_R xcfa xcfb xcfc xcdd xcsz xany xlra xlrb xlrc xlrp xlrq xlrr xlrs xlrd xwrow xwlen mdd mn mla mlb mlc msome mlast mlet mwd) := by
  have hR0 := hR
  obtain ⟨D, G, e1, e2, e3, e4⟩ := g_of hR.1
  have h40 := G.2.1
  subst e1 e2 e3 e4
  have ga1 := zi_ge p0
  have ga2 := zi_gt p0
  have gb1 := zi_ge p1
  have gb2 := zi_gt p1
  rw [zi_of p0, zi_of p1]
  generalize p0.toInt = k at ga1 ga2
  generalize p1.toInt = m at gb1 gb2
  rw [f_X3_prime, f_X4_prime]
  by_cases hk : 0 ≤ k ∧ k < (pu_list D).length
  rotate_left
  · right; left
    obtain ⟨u1, u2⟩ := (q_has ((pu_list D).length) k ga1 ga2 (by omega) (by omega)).2 hk
    rw [u1, u2, e_b1, e_b1, if_pos rfl, if_pos rfl]
    exact ⟨_, _, _, _, _, _, _, _, _, rfl, rfl, rfl, hR0⟩
  obtain ⟨u1, u2⟩ := (q_has ((pu_list D).length) k ga1 ga2 (by omega) (by omega)).1 hk
  rw [u1, u2, e_b1, e_b1, if_neg (show ¬ (1 : Int32) = 0 by decide), if_neg (show ¬ (1 : Int32) = 0 by decide)]
  have hout := q_out m 1 500 gb1 gb2 (by omega) (by omega) (by omega) (by omega)
  rw [← zi1, ← zi500] at hout
  by_cases hm : 1 ≤ m ∧ m ≤ 500
  rotate_left
  · right; right
    rw [hout.2 hm, e_b1, if_neg (show ¬ (1 : Int32) = 0 by decide)]
    rcases (show m < 1 ∨ (1 ≤ m ∧ 500 < m) by omega) with h | h
    · rw [if_pos (show zi m < 1 by rw [zi1, zi_lt (by omega) (by omega) (by omega) (by omega)]; omega)]
      exact ⟨_, _, _, _, _, _, _, _, _, rfl, rfl, rfl, hR0⟩
    · rw [if_neg (show ¬ zi m < 1 by rw [zi1, zi_lt (by omega) (by omega) (by omega) (by omega)]; omega), if_neg (show ¬ zi m ≤ 500 by rw [zi500, zi_le (by omega) (by omega) (by omega) (by omega)]; omega)]
      exact ⟨_, _, _, _, _, _, _, _, _, rfl, rfl, rfl, hR0⟩
  left
  obtain ⟨k, rfl⟩ : ∃ m : Nat, k = m := ⟨k.toNat, by omega⟩
  obtain ⟨m, rfl⟩ : ∃ m' : Nat, m = m' := ⟨m.toNat, by omega⟩
  have H := fH_of D G.1 k (by omega)
  obtain ⟨s1, s2, _⟩ := G.2.2.1 k (by omega)
  have s1 : xcfa k = zi (pu_at D k).1 := s1
  have s2 : xcfb k = zi (pu_at D k).2.1 := s2
  obtain ⟨s4, s5, s6⟩ := G.2.2.2 k (by omega) (by omega)
  have s4 : mla k = zj (pu_at D k).1 := s4
  have s5 : mlb k = zj (pu_at D k).2.1 := s5
  have s6 : mlc k = zj (pu_at D k).2.2 := s6
  have hni : (zi (k : Int)).toNatClampNeg = k := by rw [zi_nat (by omega) (by omega)]; omega
  have hg : ¬ (zi (k : Int) < 0 ∨ 40 ≤ (zi (k : Int)).toNatClampNeg) := by rw [zi0, zi_lt (by omega) (by omega) (by omega) (by omega), hni]; omega
  have hg' : ¬ (zi (k : Int) < 0 ∨ 40 ≤ k) := by rw [hni] at hg; exact hg
  obtain ⟨x0, y0, w2, w3, w4, w5, w6, w7, x1, y1, g1, g2, haw⟩ := q_away D G.1 k (by omega) h40 mla mlb mlc G.2.2.2 ma mb mc mp mq mr ms m (by omega) (by omega)
  obtain ⟨xw, yw, _, _, gw, vw1, vw2, vw3⟩ := q_wit D G.1 k (by omega)
  have hgi : Int.gcd (x0 : Int) (y0 : Int) = 1 := g1
  have hgw : Int.gcd (xw : Int) (yw : Int) = 1 := gw
  obtain ⟨ha, ha', hb, hb', hc, hc', hD, hD0, hD2, h3a, h3c⟩ := id H
  have hvb := q_vb (pu_at D k).1 (pu_at D k).2.1 (pu_at D k).2.2 x0 y0 (by omega) (by omega) (by omega) (by omega) (by omega) (by omega) x1 y1
  have hvb : -8000000 ≤ vf (pu_at D k).1 (pu_at D k).2.1 (pu_at D k).2.2 x0 y0 ∧ vf (pu_at D k).1 (pu_at D k).2.1 (pu_at D k).2.2 x0 y0 ≤ 8000000 := hvb
  have hnn := vf_nn D _ _ _ (x0 : Int) (y0 : Int) H
  have hR1 : RP (pu_at D k).1 (pu_at D k).2.1 (pu_at D k).2.2 m (vf (pu_at D k).1 (pu_at D k).2.1 (pu_at D k).2.2 x0 y0) := ⟨⟨x0, y0, rfl, hgi⟩, g2⟩
  have hpos : 1 ≤ vf (pu_at D k).1 (pu_at D k).2.1 (pu_at D k).2.2 x0 y0 := by
    obtain ⟨hu, _⟩ := id H
    rcases (show vf (pu_at D k).1 (pu_at D k).2.1 (pu_at D k).2.2 x0 y0 = 0 ∨ 1 ≤ vf (pu_at D k).1 (pu_at D k).2.1 (pu_at D k).2.2 x0 y0 by omega) with h | h
    · exfalso
      obtain ⟨q1, q2, q3, q4⟩ := vf_box _ _ _ 0 (x0 : Int) (y0 : Int) D 0 0 hD hD0 (by omega) (by omega) h
      have hx : x0 = 0 := by omega
      have hy : y0 = 0 := by omega
      rw [hx, hy] at g1
      exact absurd g1 (by decide)
    · exact h
  generalize vf (pu_at D k).1 (pu_at D k).2.1 (pu_at D k).2.2 x0 y0 = v0 at *
  obtain ⟨X, Y, B, hX, hY⟩ := b_reach D (pu_at D k).1 (pu_at D k).2.1 (pu_at D k).2.2 v0 H (by omega) hvb.2
  have hX4 : X ≤ 4000 := B.2.2.2.1
  obtain ⟨best, t1, t2, t3, t4, t5⟩ := q_p79 mla mlb mlc k (by omega) _ _ _ D s4 s5 s6 H X Y B.2.2.2.1 B.2.2.2.2 m (by omega) (by omega) (zj v0) w2 w3 w4 w5 w6 w7 (2 * X + 1) (-(X : Int)) 100000 v0 (by omega) (by omega) (by omega) hpos hvb.2 hR1
  have hL : ∀ v : Int, 1 ≤ v → v < best → ¬ RP (pu_at D k).1 (pu_at D k).2.1 (pu_at D k).2.2 m v := by
    intro v q1 q2 hv
    obtain ⟨⟨x, y, r1, r2⟩, r3⟩ := hv
    have m1 := Int.mul_le_mul_of_nonneg_left (show v ≤ v0 by omega) (show 0 ≤ 4 * (pu_at D k).2.2 by omega)
    have m2 := Int.mul_le_mul_of_nonneg_left (show v ≤ v0 by omega) (show 0 ≤ 4 * (pu_at D k).1 by omega)
    obtain ⟨g1, g2, g3, g4⟩ := vf_box _ _ _ v x y D X Y hD hD0 (Int.lt_of_le_of_lt m1 B.1) (Int.lt_of_le_of_lt m2 B.2.1) r1
    rcases (show 0 ≤ y ∨ y < 0 by omega) with h | h
    · have := t5 x y g1 g2 h g4 ⟨by omega, r2, by rw [r1]; exact r3⟩
      omega
    · have := t5 (-x) (-y) (by omega) (by omega) (by omega) (by omega) ⟨by rw [vf_neg]; omega, by rw [Int.neg_gcd, Int.gcd_neg]; exact r2, by rw [vf_neg, r1]; exact r3⟩
      rw [vf_neg] at this
      omega
  have hbw : best ≤ 99998 := by
    rcases (show best ≤ 99998 ∨ 99998 < best by omega) with h | h
    · exact h
    · exact absurd ⟨⟨xw, yw, rfl, hgw⟩, vw3 m (by omega) (by omega)⟩ (hL _ vw1 (by omega))
  obtain ⟨best, rfl⟩ : ∃ b : Nat, best = b := ⟨best.toNat, by omega⟩
  have C := q_lcv xcfa xcfb ((pu_list D).length) k (by omega) (by omega) (by omega) _ _ _ D s1 s2 H m (by omega) (by omega) best (by omega) (by omega) t4 hL (best - 1) 1 100000 (by omega) (by omega) (by omega)
  have C : f_X0_leastCoprimeValue xcfa xcfb (zi D) (zi ((pu_list D).length)) (zi k) (zi m) = some (zi best) := C
  refine ⟨zi best, 0, zj v0, w2, w3, w4, w5, w6, w7, ?_, ?_, rfl, hR0⟩
  · rw [if_neg (show ¬ zi m < 1 by rw [zi1, zi_lt (by omega) (by omega) (by omega) (by omega)]; omega), if_pos (show zi m ≤ 500 by rw [zi500, zi_le (by omega) (by omega) (by omega) (by omega)]; omega), C, e_b1]
  · rw [hout.1 hm, e_b1, if_pos rfl, zi_zj (by omega) (by omega), haw, h_b7, e_g hg, hni, s6, hX, h_b1, e_g hg', s4, hY, h_b1, h_let, zj_neg]
    exact t1
