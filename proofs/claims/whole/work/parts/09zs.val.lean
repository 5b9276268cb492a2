/-! values -/
theorem fH_of (D : Int) (hD : pu_ok D) (k : Nat) (hk : k < (pu_list D).length) : fH D (pu_at D k).1 (pu_at D k).2.1 (pu_at D k).2.2 := by
  obtain ⟨u1, u2, u3, u4, u5, u6, u7, u8⟩ := pu_at_sz D hD k hk
  unfold rd_done at u8
  obtain ⟨q1, q2, _⟩ := hD
  generalize (pu_at D k).1 = a at *
  generalize (pu_at D k).2.1 = b at *
  generalize (pu_at D k).2.2 = c at *
  have g1 := (mulb (show -a ≤ b by omega) (show b ≤ a by omega) (show -a ≤ b by omega) (show b ≤ a by omega)).2
  have g2 := Int.mul_le_mul_of_nonneg_left (show a ≤ c by omega) (show 0 ≤ a by omega)
  have g3 := Int.mul_le_mul_of_nonneg_left (show 1 ≤ c by omega) (show 0 ≤ a by omega)
  have g4 := Int.mul_le_mul_of_nonneg_right (show 1 ≤ a by omega) (show 0 ≤ c by omega)
  have g5 : 4 * a * c = 4 * (a * c) := Int.mul_assoc _ _ _
  unfold fH
  exact ⟨u1, u2, u3, u4, u5, u6, u7, by omega, q1, by omega, by omega⟩
/-- a box for every number -/
theorem b_reach (D a b c n : Int) (H : fH D a b c) (hn : 0 ≤ n) (hn' : n ≤ 8000000) : ∃ X Y : Nat, bX D a c n X Y ∧ f_X4_reach (zi D) (zj c) (zj n) = some (zj X) ∧ f_X4_reach (zi D) (zj a) (zj n) = some (zj Y) := by
  obtain ⟨ha, ha', hb, hb', hc, hc', hD, hD0, hD2, h3a, h3c⟩ := H
  obtain ⟨X, x1, x2, x3, x4⟩ := q_reach D c n hD2 hD0 hc hc' h3c hn hn'
  obtain ⟨Y, y1, y2, y3, y4⟩ := q_reach D a n hD2 hD0 ha (by omega) h3a hn hn'
  exact ⟨X, Y, ⟨x3, y3, y4, x1, y1⟩, x2, y2⟩
theorem pu_values (xcfa : Nat → Int32) (xcfb : Nat → Int32) (xcfc : Nat → Int32) (xcdd : Int32) (xcsz : Int32) (xlra : Int32) (xlrb : Int32) (xlrc : Int32) (xlrp : Int32) (xlrq : Int32) (xlrr : Int32) (xlrs : Int32) (xlrd : Int32) (xany : Int32) (xwrow : Nat → Int32) (xwlen : Int32) (mdd : Int32) (mn : Int32) (mla : Nat → Int64) (mlb : Nat → Int64) (mlc : Nat → Int64) (msome : Int32) (mlast : Nat → Int64) (mlet : Int32) (mwd : Nat → Int32) (hR : pu_R xcfa xcfb xcfc xcdd xcsz xany xlra xlrb xlrc xlrp xlrq xlrr xlrs xlrd xwrow xwlen mdd mn mla mlb mlc msome mlast mlet mwd) (p0 : Int32) (p1 : Int32) (p2 : Int32) (hb2 : p2 = 0 ∨ p2 = 1) : (∃ (rv : Int32) (mthr' : Int32), f_X3_values xcfa xcfb xcdd xcsz p0 p1 p2 = some (.inl rv) ∧ f_X4_values mdd mn mla mlb mlc p0 p1 p2 = some (rv, mthr') ∧ mthr' = 0 ∧ pu_R xcfa xcfb xcfc xcdd xcsz xany xlra xlrb xlrc xlrp xlrq xlrr xlrs xlrd xwrow xwlen mdd mn mla mlb mlc msome mlast mlet mwd) ∨ (∃ (bv : Int32) (mthr' : Int32), f_X3_values xcfa xcfb xcdd xcsz p0 p1 p2 = some (.inr (.inl ())) ∧ f_X4_values mdd mn mla mlb mlc p0 p1 p2 = some (bv, mthr') ∧ mthr' = 1 ∧ pu_R xcfa xcfb xcfc xcdd xcsz xany xlra xlrb xlrc xlrp xlrq xlrr xlrs xlrd xwrow xwlen mdd mn mla mlb mlc msome mlast mlet mwd) ∨ (∃ (bv : Int32) (mthr' : Int32), f_X3_values xcfa xcfb xcdd xcsz p0 p1 p2 = some (.inr (.inr ())) ∧ f_X4_values mdd mn mla mlb mlc p0 p1 p2 = some (bv, mthr') ∧ mthr' = 2 ∧ pu_R xcfa xcfb xcfc xcdd xcsz xany xlra xlrb xlrc xlrp xlrq xlrr xlrs xlrd xwrow xwlen mdd mn mla mlb mlc msome mlast mlet mwd) := by
  have hR0 := hR
  obtain ⟨D, G, e1, e2, e3, e4⟩ := g_of hR.1
  have h40 := G.2.1
  subst e1 e2 e3 e4
  have ga1 := zi_ge p0
  have ga2 := zi_gt p0
  have gb1 := zi_ge p1
  have gb2 := zi_gt p1
  obtain ⟨p, hp, rfl⟩ : ∃ p : Nat, p ≤ 1 ∧ p2 = zi p := by
    rcases hb2 with h | h
    · exact ⟨0, by omega, h⟩
    · exact ⟨1, by omega, h⟩
  rw [zi_of p0, zi_of p1]
  generalize p0.toInt = k at ga1 ga2
  generalize p1.toInt = n at gb1 gb2
  rw [f_X3_values, f_X4_values]
  by_cases hk : 0 ≤ k ∧ k < (pu_list D).length
  rotate_left
  · right; left
    obtain ⟨u1, u2⟩ := (q_has ((pu_list D).length) k ga1 ga2 (by omega) (by omega)).2 hk
    rw [u1, u2, e_b1, e_b1, if_pos rfl, if_pos rfl]
    exact ⟨_, _, rfl, rfl, rfl, hR0⟩
  obtain ⟨u1, u2⟩ := (q_has ((pu_list D).length) k ga1 ga2 (by omega) (by omega)).1 hk
  rw [u1, u2, e_b1, e_b1, if_neg (show ¬ (1 : Int32) = 0 by decide), if_neg (show ¬ (1 : Int32) = 0 by decide)]
  have hout := q_out n 0 1000 gb1 gb2 (by omega) (by omega) (by omega) (by omega)
  rw [← zi0, ← zi1000] at hout
  by_cases hn : 0 ≤ n ∧ n ≤ 1000
  rotate_left
  · right; right
    rw [hout.2 hn, e_b1, if_neg (show ¬ (1 : Int32) = 0 by decide)]
    rcases (show n < 0 ∨ (0 ≤ n ∧ 1000 < n) by omega) with h | h
    · rw [if_pos (show zi n < 0 by rw [zi0, zi_lt (by omega) (by omega) (by omega) (by omega)]; omega)]
      exact ⟨_, _, rfl, rfl, rfl, hR0⟩
    · rw [if_neg (show ¬ zi n < 0 by rw [zi0, zi_lt (by omega) (by omega) (by omega) (by omega)]; omega), if_neg (show ¬ zi n ≤ 1000 by rw [zi1000, zi_le (by omega) (by omega) (by omega) (by omega)]; omega)]
      exact ⟨_, _, rfl, rfl, rfl, hR0⟩
  left
  obtain ⟨k, rfl⟩ : ∃ m : Nat, k = m := ⟨k.toNat, by omega⟩
  have H := fH_of D G.1 k (by omega)
  obtain ⟨X, Y, B, hX, hY⟩ := b_reach D (pu_at D k).1 (pu_at D k).2.1 (pu_at D k).2.2 n H hn.1 (by omega)
  obtain ⟨s1, s2, _⟩ := G.2.2.1 k (by omega)
  have s1 : xcfa k = zi (pu_at D k).1 := s1
  have s2 : xcfb k = zi (pu_at D k).2.1 := s2
  obtain ⟨s4, s5, s6⟩ := G.2.2.2 k (by omega) (by omega)
  have s4 : mla k = zj (pu_at D k).1 := s4
  have s5 : mlb k = zj (pu_at D k).2.1 := s5
  have s6 : mlc k = zj (pu_at D k).2.2 := s6
  have hni : (zi (k : Int)).toNatClampNeg = k := by rw [zi_nat (by omega) (by omega)]; omega
  have hg : ¬ (zi (k : Int) < 0 ∨ 40 ≤ (zi (k : Int)).toNatClampNeg) := by rw [zi0, zi_lt (by omega) (by omega) (by omega) (by omega), hni]; omega
  have hg' : ¬ (zi (k : Int) < 0 ∨ 40 ≤ k) := by rw [hni] at hg; exact hg
  have C := q_cp xcfa xcfb k (by omega) _ _ _ D n s1 s2 H X Y B hn.1 (by omega) p hp 100000 (by omega)
  have C : f_X0_countPairs xcfa xcfb (zi D) (zi ((pu_list D).length)) (zi k) (zi n) (zi p) = some (zi (nn (pu_at D k).1 (pu_at D k).2.1 (pu_at D k).2.2 n p X Y : Nat)) := by
    rw [f_X0_countPairs, ((q_has ((pu_list D).length) k (by omega) (by omega) (by omega) (by omega)).1 (by omega)).1, e_b1, if_neg (show ¬ (1 : Int32) = 0 by decide)]
    exact C
  have hX4 : X ≤ 4000 := B.2.2.2.1
  have V := q_v72 mla mlb mlc k (by omega) _ _ _ D n s4 s5 s6 H X Y B.2.2.2.1 B.2.2.2.2 hn.1 (by omega) p hp (2 * X + 1) (-(X : Int)) 100000 0 (by omega) (by omega) (by omega)
  rw [Nat.zero_add] at V
  refine ⟨zi (nn (pu_at D k).1 (pu_at D k).2.1 (pu_at D k).2.2 n p X Y : Nat), 0, ?_, ?_, rfl, hR0⟩
  · rw [if_neg (show ¬ zi n < 0 by rw [zi0, zi_lt (by omega) (by omega) (by omega) (by omega)]; omega), if_pos (show zi n ≤ 1000 by rw [zi1000, zi_le (by omega) (by omega) (by omega) (by omega)]; omega), C, e_b1]
  · rw [hout.1 hn, e_b1, if_pos rfl, e_g hg, zi_zj (by omega) (by omega), hni, s6, hX, h_b1, e_g hg', s4, hY, h_b1, h_let, zj_neg]
    exact V
