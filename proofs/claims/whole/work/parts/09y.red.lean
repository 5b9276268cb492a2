theorem q_disc (a b c : Int) (h : b * b - 4 * a * c < 0) : b * b - 4 * a * c < -2 := by
  have e : 4 * a * c = 4 * (a * c) := Int.mul_assoc 4 a c
  rcases (show (∃ t, b = 2 * t) ∨ (∃ t, b = 2 * t + 1) by
    rcases Int.emod_two_eq b with h | h
    · left; exact ⟨b / 2, by omega⟩
    · right; exact ⟨b / 2, by omega⟩) with ⟨t, rfl⟩ | ⟨t, rfl⟩
  · have e2 : 2 * t * (2 * t) = 4 * (t * t) := by grind
    omega
  · have e2 : (2 * t + 1) * (2 * t + 1) = 4 * (t * t + t) + 1 := by grind
    omega
/-- both reduce alike -/
theorem q_reduce (k : Nat) (hk : k ≤ 25) (a b c : Int) (ha : 0 < a) (hak : a ≤ 2 ^ k) (hD : b * b - 4 * a * c < 0) (ha' : a ≤ 536870912) (hc' : c ≤ 536870912) (hb : -536870912 ≤ b) (hb' : b ≤ 536870912) : ∃ (n : Nat) (x y z : Int) (P Q R S : Int64), rd_T n a b c x y z ∧ n ≤ 2 * k + 1 ∧ f_X1_run (zi a) (zi b) (zi c) = some (zi n, zi x, zi y, zi z, P.toInt32, Q.toInt32, R.toInt32, S.toInt32, zi (b * b - 4 * a * c)) ∧ f_X4_steps (zj a) (zj b) (zj c) 1 0 0 1 = some (zi n, zj x, zj y, zj z, P, Q, R, S) ∧ rd_done x y z ∧ 0 < x ∧ x ≤ 536870912 ∧ z ≤ 536870912 ∧ y * y - 4 * x * z = b * b - 4 * a * c := by
  obtain ⟨n, x, y, z, hn, hT⟩ := rd_end k a b c ha hak (q_disc a b c hD)
  obtain ⟨⟨P, Q, R, S, e1, e2⟩, g⟩ := q_both (zi (b * b - 4 * a * c)) n a b c x y z 1 0 0 1 0 100000 100000 hT ha hD ha' hc' hb hb' (by omega) (by omega) (by omega)
  rw [Nat.zero_add] at e1 e2
  refine ⟨n, x, y, z, P, Q, R, S, hT, hn, ?_, e2, g⟩
  rw [f_X1_run, f_X1_start, zi4, zi_mul, zi_mul, zi_mul, zi_sub, e_let, e_b8]
  exact e1
theorem q_coef (x : Int) (h1 : -2147483648 ≤ x) (h2 : x ≤ 2147483647) : (-20000 ≤ x ∧ x ≤ 20000 → f_X3_isCoefficient (zi x) = some 1) ∧ (¬ (-20000 ≤ x ∧ x ≤ 20000) → f_X3_isCoefficient (zi x) = some 0) := by
  rw [f_X3_isCoefficient, zim20000, zi20000]
  simp (disch := omega) only [zi_lt]
  constructor
  · intro h
    (repeat' split) <;> first | rfl | (exfalso; omega)
  · intro h
    (repeat' split) <;> first | rfl | (exfalso; omega)
theorem q_bnd (a b c : Int) (ha1 : -20000 ≤ a) (ha2 : a ≤ 20000) (hb1 : -20000 ≤ b) (hb2 : b ≤ 20000) (hc1 : -20000 ≤ c) (hc2 : c ≤ 20000) : -2147483000 ≤ b * b - 4 * a * c ∧ b * b - 4 * a * c ≤ 2147483000 := by
  have e : 4 * a * c = 4 * (a * c) := Int.mul_assoc 4 a c
  have q1 := rd_sq 20000 b (by omega) (by omega) (by omega)
  have q0 : 0 ≤ b * b := by
    rcases Int.le_total 0 b with h | h
    · exact Int.mul_nonneg h h
    · have := Int.mul_nonneg (show 0 ≤ -b by omega) (show 0 ≤ -b by omega); grind
  have q2 : 0 ≤ (20000 - a) * (20000 + c) := Int.mul_nonneg (by omega) (by omega)
  have q3 : 0 ≤ (20000 + a) * (20000 - c) := Int.mul_nonneg (by omega) (by omega)
  have q4 : 0 ≤ (20000 - a) * (20000 - c) := Int.mul_nonneg (by omega) (by omega)
  have q5 : 0 ≤ (20000 + a) * (20000 + c) := Int.mul_nonneg (by omega) (by omega)
  have e2 : (20000 - a) * (20000 + c) + (20000 + a) * (20000 - c) = 800000000 - 2 * (a * c) := by grind
  have e3 : (20000 - a) * (20000 - c) + (20000 + a) * (20000 + c) = 800000000 + 2 * (a * c) := by grind
  omega
theorem q_form (a b c : Int) (ha1 : -20000 ≤ a) (ha2 : a ≤ 20000) (hb1 : -20000 ≤ b) (hb2 : b ≤ 20000) (hc1 : -20000 ≤ c) (hc2 : c ≤ 20000) : (0 < a ∧ b * b - 4 * a * c < 0 ∧ Int.gcd (Int.gcd a b) c = 1 → f_X3_isForm (zi a) (zi b) (zi c) = some 1) ∧ (¬ (0 < a ∧ b * b - 4 * a * c < 0 ∧ Int.gcd (Int.gcd a b) c = 1) → f_X3_isForm (zi a) (zi b) (zi c) = some 0) := by
  obtain ⟨hb, hb'⟩ := q_bnd a b c ha1 ha2 hb1 hb2 hc1 hc2
  have c1 : (zi a ≤ 0) ↔ a ≤ 0 := by rw [zi0, zi_le (by omega) (by omega) (by omega) (by omega)]
  have c2 : (0 ≤ zi (b * b - 4 * a * c)) ↔ 0 ≤ b * b - 4 * a * c := by rw [zi0, zi_le (by omega) (by omega) (by omega) (by omega)]
  rw [f_X3_isForm, zi4, zi_mul, zi_mul, zi_mul, zi_sub]
  simp only [c1, c2]
  obtain ⟨p1, p2⟩ := q_prim a b c (by omega) (by omega) (by omega) (by omega) (by omega) (by omega)
  constructor
  · intro ⟨h1, h2, h3⟩
    rw [if_neg (by omega), if_neg (by omega), p1 h3, e_b1, if_neg (show ¬ (1 : Int32) = 0 by decide)]
  · intro h
    by_cases h1 : a ≤ 0
    · rw [if_pos h1]
    rw [if_neg h1]
    by_cases h2 : 0 ≤ b * b - 4 * a * c
    · rw [if_pos h2]
    rw [if_neg h2, p2 (fun h3 => h ⟨by omega, by omega, h3⟩) (by omega), e_b1, if_pos rfl]
theorem pu_reduce (xcfa : Nat → Int32) (xcfb : Nat → Int32) (xcfc : Nat → Int32) (xcdd : Int32) (xcsz : Int32) (xlra : Int32) (xlrb : Int32) (xlrc : Int32) (xlrp : Int32) (xlrq : Int32) (xlrr : Int32) (xlrs : Int32) (xlrd : Int32) (xany : Int32) (xwrow : Nat → Int32) (xwlen : Int32) (mdd : Int32) (mn : Int32) (mla : Nat → Int64) (mlb : Nat → Int64) (mlc : Nat → Int64) (ma : Int64) (mb : Int64) (mc : Int64) (mp : Int64) (mq : Int64) (mr : Int64) (ms : Int64) (msome : Int32) (mlast : Nat → Int64) (mlet : Int32) (mwd : Nat → Int32) (hR : pu_R xcfa xcfb xcfc xcdd xcsz xany xlra xlrb xlrc xlrp xlrq xlrr xlrs xlrd xwrow xwlen mdd mn mla mlb mlc msome mlast mlet mwd) (p0 : Int32) (p1 : Int32) (p2 : Int32) : (∃ (rv : Int32) (xlra' : Int32) (xlrb' : Int32) (xlrc' : Int32) (xlrp' : Int32) (xlrq' : Int32) (xlrr' : Int32) (xlrs' : Int32) (xlrd' : Int32) (xany' : Int32) (mthr' : Int32) (ma' : Int64) (mb' : Int64) (mc' : Int64) (mp' : Int64) (mq' : Int64) (mr' : Int64) (ms' : Int64) (msome' : Int32) (mlast' : Nat → Int64), f_X3_reduce xlra xlrb xlrc xlrp xlrq xlrr xlrs xlrd xany p0 p1 p2 = some (.inl (rv, xlra', xlrb', xlrc', xlrp', xlrq', xlrr', xlrs', xlrd', xany')) ∧ f_X4_reduce ma mb mc mp mq mr ms msome mlast p0 p1 p2 = some (rv, mthr', ma', mb', mc', mp', mq', mr', ms', msome', mlast') ∧ mthr' = 0 ∧ pu_R xcfa xcfb xcfc xcdd xcsz xany' xlra' xlrb' xlrc' xlrp' xlrq' xlrr' xlrs' xlrd' xwrow xwlen mdd mn mla mlb mlc msome' mlast' mlet mwd) ∨ (∃ (xlra' : Int32) (xlrb' : Int32) (xlrc' : Int32) (xlrp' : Int32) (xlrq' : Int32) (xlrr' : Int32) (xlrs' : Int32) (xlrd' : Int32) (xany' : Int32) (bv : Int32) (mthr' : Int32) (ma' : Int64) (mb' : Int64) (mc' : Int64) (mp' : Int64) (mq' : Int64) (mr' : Int64) (ms' : Int64) (msome' : Int32) (mlast' : Nat → Int64), f_X3_reduce xlra xlrb xlrc xlrp xlrq xlrr xlrs xlrd xany p0 p1 p2 = some (.inr (xlra', xlrb', xlrc', xlrp', xlrq', xlrr', xlrs', xlrd', xany')) ∧ f_X4_reduce ma mb mc mp mq mr ms msome mlast p0 p1 p2 = some (bv, mthr', ma', mb', mc', mp', mq', mr', ms', msome', mlast') ∧ mthr' = 1 ∧ pu_R xcfa xcfb xcfc xcdd xcsz xany' xlra' xlrb' xlrc' xlrp' xlrq' xlrr' xlrs' xlrd' xwrow xwlen mdd mn mla mlb mlc msome' mlast' mlet mwd) := by
  have hR0 := hR
  obtain ⟨hL, hRR, hRW⟩ := hR
  have ga1 := zi_ge p0
  have ga2 := zi_gt p0
  have gb1 := zi_ge p1
  have gb2 := zi_gt p1
  have gc1 := zi_ge p2
  have gc2 := zi_gt p2
  rw [zi_of p0, zi_of p1, zi_of p2]
  generalize p0.toInt = a at ga1 ga2
  generalize p1.toInt = b at gb1 gb2
  generalize p2.toInt = c at gc1 gc2
  rw [f_X3_reduce, f_X4_reduce, zi_zj ga1 ga2, zi_zj gb1 gb2, zi_zj gc1 gc2, zj4, zj_mul, zj_mul, zj_mul, zj_sub]
  have hno : ∀ (X : Option ((Int32 × Int32 × Int32 × Int32 × Int32 × Int32 × Int32 × Int32 × Int32 × Int32) ⊕ (Int32 × Int32 × Int32 × Int32 × Int32 × Int32 × Int32 × Int32 × Int32))) (Y : Option (Int32 × Int32 × Int64 × Int64 × Int64 × Int64 × Int64 × Int64 × Int64 × Int32 × (Nat → Int64))), X = some (.inr (xlra, xlrb, xlrc, xlrp, xlrq, xlrr, xlrs, xlrd, xany)) → Y = some (0, 1, ma, mb, mc, mp, mq, mr, ms, msome, mlast) → (∃ (xlra' : Int32) (xlrb' : Int32) (xlrc' : Int32) (xlrp' : Int32) (xlrq' : Int32) (xlrr' : Int32) (xlrs' : Int32) (xlrd' : Int32) (xany' : Int32) (bv : Int32) (mthr' : Int32) (ma' : Int64) (mb' : Int64) (mc' : Int64) (mp' : Int64) (mq' : Int64) (mr' : Int64) (ms' : Int64) (msome' : Int32) (mlast' : Nat → Int64), X = some (.inr (xlra', xlrb', xlrc', xlrp', xlrq', xlrr', xlrs', xlrd', xany')) ∧ Y = some (bv, mthr', ma', mb', mc', mp', mq', mr', ms', msome', mlast') ∧ mthr' = 1 ∧ pu_R xcfa xcfb xcfc xcdd xcsz xany' xlra' xlrb' xlrc' xlrp' xlrq' xlrr' xlrs' xlrd' xwrow xwlen mdd mn mla mlb mlc msome' mlast' mlet mwd) := by
    intro X Y hX hY
    exact ⟨_, _, _, _, _, _, _, _, _, _, _, _, _, _, _, _, _, _, _, _, hX, hY, rfl, hR0⟩
  by_cases fit : (-20000 ≤ a ∧ a ≤ 20000) ∧ (-20000 ≤ b ∧ b ≤ 20000) ∧ (-20000 ≤ c ∧ c ≤ 20000)
  rotate_left
  · right
    apply hno
    · by_cases f1 : -20000 ≤ a ∧ a ≤ 20000
      · rw [(q_coef a ga1 ga2).1 f1, e_b1, if_neg (show ¬ (1 : Int32) = 0 by decide)]
        by_cases f2 : -20000 ≤ b ∧ b ≤ 20000
        · rw [(q_coef b gb1 gb2).1 f2, e_b1, if_neg (show ¬ (1 : Int32) = 0 by decide), (q_coef c gc1 gc2).2 (by omega), e_b1, if_pos rfl]
        · rw [(q_coef b gb1 gb2).2 f2, e_b1, if_pos rfl]
      · rw [(q_coef a ga1 ga2).2 f1, e_b1, if_pos rfl]
    · by_cases f1 : 1 ≤ a ∧ a ≤ 20000
      · rw [show f_X4_outside (zi a) 1 20000 = some 0 from (q_out a 1 20000 ga1 ga2 (by omega) (by omega) (by omega) (by omega)).1 f1, e_b1, if_pos rfl]
        by_cases f2 : -20000 ≤ b ∧ b ≤ 20000
        · have oc : ¬ (-20000 ≤ c ∧ c ≤ 20000) := by omega
          rw [show f_X4_outside (zi b) (-20000) 20000 = some 0 from (q_out b (-20000) 20000 gb1 gb2 (by omega) (by omega) (by omega) (by omega)).1 f2, e_b1, if_pos rfl, show f_X4_outside (zi c) (-20000) 20000 = some 1 from (q_out c (-20000) 20000 gc1 gc2 (by omega) (by omega) (by omega) (by omega)).2 oc, e_b1, if_neg (show ¬ (1 : Int32) = 0 by decide), if_pos rfl]
          rfl
        · rw [show f_X4_outside (zi b) (-20000) 20000 = some 1 from (q_out b (-20000) 20000 gb1 gb2 (by omega) (by omega) (by omega) (by omega)).2 f2, e_b1, if_neg (show ¬ (1 : Int32) = 0 by decide), if_pos rfl]
          rfl
      · rw [show f_X4_outside (zi a) 1 20000 = some 1 from (q_out a 1 20000 ga1 ga2 (by omega) (by omega) (by omega) (by omega)).2 f1, e_b1, if_neg (show ¬ (1 : Int32) = 0 by decide), if_pos rfl]
        rfl
  obtain ⟨f1, f2, f3⟩ := fit
  obtain ⟨hb, hb'⟩ := q_bnd a b c f1.1 f1.2 f2.1 f2.2 f3.1 f3.2
  obtain ⟨o1, o2⟩ := q_form a b c f1.1 f1.2 f2.1 f2.2 f3.1 f3.2
  rw [(q_coef a ga1 ga2).1 f1, e_b1, if_neg (show ¬ (1 : Int32) = 0 by decide), (q_coef b gb1 gb2).1 f2, e_b1, if_neg (show ¬ (1 : Int32) = 0 by decide), (q_coef c gc1 gc2).1 f3, e_b1, if_neg (show ¬ (1 : Int32) = 0 by decide)]
  by_cases hp : 0 < a
  rotate_left
  · right
    rw [o2 (by omega), e_b1, if_pos rfl]
    apply hno _ _ rfl
    rw [show f_X4_outside (zi a) 1 20000 = some 1 from (q_out a 1 20000 ga1 ga2 (by omega) (by omega) (by omega) (by omega)).2 (by omega), e_b1, if_neg (show ¬ (1 : Int32) = 0 by decide), if_pos rfl]
    rfl
  rw [show f_X4_outside (zi a) 1 20000 = some 0 from (q_out a 1 20000 ga1 ga2 (by omega) (by omega) (by omega) (by omega)).1 (by omega), e_b1, if_pos rfl, show f_X4_outside (zi b) (-20000) 20000 = some 0 from (q_out b (-20000) 20000 gb1 gb2 (by omega) (by omega) (by omega) (by omega)).1 f2, e_b1, if_pos rfl, show f_X4_outside (zi c) (-20000) 20000 = some 0 from (q_out c (-20000) 20000 gc1 gc2 (by omega) (by omega) (by omega) (by omega)).1 f3, e_b1, if_pos rfl, if_neg (show ¬ (1 : Int32) = 0 by decide)]
  by_cases hd : b * b - 4 * a * c < 0
  rotate_left
  · right
    rw [o2 (by omega), e_b1, if_pos rfl]
    apply hno _ _ rfl
    rw [zj0, if_pos (by rw [zj_le (by omega) (by omega) (by omega) (by omega)]; omega)]
    rfl
  rw [show (0 : Int64) = zj 0 from rfl, if_neg (by rw [zj_le (by omega) (by omega) (by omega) (by omega)]; omega)]
  by_cases hg : Int.gcd (Int.gcd a b) c = 1
  rotate_left
  · right
    rw [o2 (fun h => hg h.2.2), e_b1, if_pos rfl]
    apply hno _ _ rfl
    rw [(q_prim4 a b c (by omega) (by omega) (by omega) (by omega)).2 hg, e_b1, if_pos rfl]
    rfl
  left
  rw [o1 ⟨hp, hd, hg⟩, e_b1, if_neg (show ¬ (1 : Int32) = 0 by decide), (q_prim4 a b c (by omega) (by omega) (by omega) (by omega)).1 hg, e_b1, if_neg (show ¬ (1 : Int32) = 0 by decide)]
  obtain ⟨n, x, y, z, P, Q, R, S, hT, hn, r1, r2, g1, g2, g3, g4, g5⟩ := q_reduce 15 (by omega) a b c hp (by omega) hd (by omega) (by omega) (by omega) (by omega)
  rw [r1, e_b9, f_X4_begin, e_b7, r2, e_b8]
  have e3 : 4 * x * z = 4 * (x * z) := Int.mul_assoc 4 x z
  have g1' := g1
  unfold rd_done at g1'
  refine ⟨zi n, zi x, zi y, zi z, P.toInt32, Q.toInt32, R.toInt32, S.toInt32, zi (b * b - 4 * a * c), 1, 0, zj x, zj y, zj z, P, Q, R, S, 1, _, rfl, rfl, rfl, hL, Or.inr ⟨rfl, rfl, x, y, z, g2, by omega, by omega, by omega, by omega, by omega, by omega, rfl, rfl, rfl, ?_, rfl, rfl, rfl, rfl, rfl, rfl, rfl⟩, hRW⟩
  rw [g5]; rfl
theorem pu_reduced (xcfa : Nat → Int32) (xcfb : Nat → Int32) (xcfc : Nat → Int32) (xcdd : Int32) (xcsz : Int32) (xlra : Int32) (xlrb : Int32) (xlrc : Int32) (xlrp : Int32) (xlrq : Int32) (xlrr : Int32) (xlrs : Int32) (xlrd : Int32) (xany : Int32) (xwrow : Nat → Int32) (xwlen : Int32) (mdd : Int32) (mn : Int32) (mla : Nat → Int64) (mlb : Nat → Int64) (mlc : Nat → Int64) (msome : Int32) (mlast : Nat → Int64) (mlet : Int32) (mwd : Nat → Int32) (hR : pu_R xcfa xcfb xcfc xcdd xcsz xany xlra xlrb xlrc xlrp xlrq xlrr xlrs xlrd xwrow xwlen mdd mn mla mlb mlc msome mlast mlet mwd) (p0 : Int32) : (∃ (rv : Int32) (mthr' : Int32), f_X3_reduced xcfa xcfb xcdd xcsz xlra xlrb xlrc xlrp xlrq xlrr xlrs xlrd xany p0 = some (.inl rv) ∧ f_X4_reduced mn mla mlb mlc msome mlast p0 = some (rv, mthr') ∧ mthr' = 0 ∧ pu_R xcfa xcfb xcfc xcdd xcsz xany xlra xlrb xlrc xlrp xlrq xlrr xlrs xlrd xwrow xwlen mdd mn mla mlb mlc msome mlast mlet mwd) ∨ (∃ (bv : Int32) (mthr' : Int32), f_X3_reduced xcfa xcfb xcdd xcsz xlra xlrb xlrc xlrp xlrq xlrr xlrs xlrd xany p0 = some (.inr ()) ∧ f_X4_reduced mn mla mlb mlc msome mlast p0 = some (bv, mthr') ∧ mthr' = 1 ∧ pu_R xcfa xcfb xcfc xcdd xcsz xany xlra xlrb xlrc xlrp xlrq xlrr xlrs xlrd xwrow xwlen mdd mn mla mlb mlc msome mlast mlet mwd) := by
  have hR0 := hR
  obtain ⟨hL, hRR, hRW⟩ := hR
  rw [pu_RL_iff] at hL
  obtain ⟨D, k1, k2, k3, k4, k5, k6, k7, k8⟩ := hL
  subst k3 k4 k5 k6
  have g3 := zi_ge p0
  have g4 := zi_gt p0
  rw [zi_of p0]
  generalize p0.toInt = w at g3 g4
  rcases hRR with ⟨rfl, rfl⟩ | ⟨rfl, rfl, a, b, c, h1, h2, h3, h4, h5, h6, h7, rfl, rfl, rfl, rfl, l0, l1, l2, rfl, rfl, rfl, rfl⟩
  · right
    exact ⟨0, 1, rfl, rfl, rfl, hR0⟩
  simp only [zi_ofInt] at hR0 ⊢
  rw [f_X3_reduced, f_X4_reduced, if_neg (show ¬ (1 : Int32) = 0 by decide), if_neg (show ¬ (1 : Int32) = 0 by decide)]
  by_cases hw : 0 ≤ w ∧ w ≤ 8
  rotate_left
  · right
    refine ⟨0, 1, ?_, ?_, rfl, hR0⟩
    · have c1 : (zi w < 0) ↔ w < 0 := by rw [zi0, zi_lt (by omega) (by omega) (by omega) (by omega)]
      have c2 : (zi w ≤ 8) ↔ w ≤ 8 := by rw [zi8, zi_le (by omega) (by omega) (by omega) (by omega)]
      simp only [c1, c2]
      by_cases h0 : w < 0
      · rw [if_pos h0]
      · rw [if_neg h0, if_neg (by omega)]
    · rw [show f_X4_outside (zi w) 0 8 = some 1 from (q_out w 0 8 g3 g4 (by omega) (by omega) (by omega) (by omega)).2 hw, e_b1, if_neg (show ¬ (1 : Int32) = 0 by decide)]
      rfl
  left
  rw [show f_X4_outside (zi w) 0 8 = some 0 from (q_out w 0 8 g3 g4 (by omega) (by omega) (by omega) (by omega)).1 hw, e_b1, if_pos rfl, if_neg (show ¬ zi w < 0 by rw [zi0, zi_lt (by omega) (by omega) (by omega) (by omega)]; omega), if_pos (show zi w ≤ 8 by rw [zi8, zi_le (by omega) (by omega) (by omega) (by omega)]; omega)]
  have ok : ∀ (rv rv' : Int32) (X : Option (Int32 ⊕ Unit)) (Y : Option (Int32 × Int32)), X = some (.inl rv) → Y = some (rv', 0) → rv = rv' → (∃ (rv : Int32) (mthr' : Int32), X = some (.inl rv) ∧ Y = some (rv, mthr') ∧ mthr' = 0 ∧ pu_R xcfa xcfb xcfc (zi D) (zi (pu_list D).length) 1 (zi a) (zi b) (zi c) (mlast 3).toInt32 (mlast 4).toInt32 (mlast 5).toInt32 (mlast 6).toInt32 (zi (b * b - 4 * a * c)) xwrow xwlen (zi D) (zi (pu_list D).length) mla mlb mlc 1 mlast mlet mwd) := by
    intro rv rv' X Y hX hY he
    subst he
    exact ⟨rv, 0, hX, hY, rfl, hR0⟩
  have l0' : mlast 0 = zj a := l0
  have l1' : mlast 1 = zj b := l1
  have l2' : mlast 2 = zj c := l2
  have e3 : 4 * a * c = 4 * (a * c) := Int.mul_assoc 4 a c
  rcases (show w = 0 ∨ w = 1 ∨ w = 2 ∨ w = 3 ∨ w = 4 ∨ w = 5 ∨ w = 6 ∨ w = 7 ∨ w = 8 by omega) with rfl | rfl | rfl | rfl | rfl | rfl | rfl | rfl | rfl
  · exact ok (zi a) (mlast 0).toInt32 _ _ rfl rfl (by rw [l0', zj_zi])
  · exact ok (zi b) (mlast 1).toInt32 _ _ rfl rfl (by rw [l1', zj_zi])
  · exact ok (zi c) (mlast 2).toInt32 _ _ rfl rfl (by rw [l2', zj_zi])
  · exact ok (mlast 3).toInt32 (mlast 3).toInt32 _ _ rfl rfl rfl
  · exact ok (mlast 4).toInt32 (mlast 4).toInt32 _ _ rfl rfl rfl
  · exact ok (mlast 5).toInt32 (mlast 5).toInt32 _ _ rfl rfl rfl
  · exact ok (mlast 6).toInt32 (mlast 6).toInt32 _ _ rfl rfl rfl
  · refine ok (zi (b * b - 4 * a * c)) (mlast 1 * mlast 1 - 4 * mlast 0 * mlast 2).toInt32 _ _ rfl rfl ?_
    rw [l0', l1', l2', zj4, zj_mul, zj_mul, zj_mul, zj_sub, zj_zi]
  · rw [if_pos (show zi 8 = 8 from rfl), if_pos (show 7 ≤ zi 8 by decide), if_neg (show ¬ zi 8 = 7 by decide), f_X3_classOfLast]
    have hg : ∀ {β : Type} (k : Option β), (dm_g (¬ ((0 : Int32) < 0 ∨ 7 ≤ ((0 : Int32)).toNatClampNeg)) <| dm_g (¬ ((1 : Int32) < 0 ∨ 7 ≤ ((1 : Int32)).toNatClampNeg)) <| dm_g (¬ ((2 : Int32) < 0 ∨ 7 ≤ ((2 : Int32)).toNatClampNeg)) k) = k := fun k => rfl
    rw [hg, show mlast (0 : Int32).toNatClampNeg = zj a from l0, show mlast (1 : Int32).toNatClampNeg = zj b from l1, show mlast (2 : Int32).toNatClampNeg = zj c from l2]
    have k1' := k1
    unfold pu_ok at k1'
    obtain ⟨fi1, fi2⟩ := q_find D k1 xcfa xcfb xcfc k7 k2 a b (by omega) (by omega) (by omega) (by omega)
    obtain ⟨fo1, fo2⟩ := q_cls D k1 mla mlb mlc k8 k2 a b c (by omega) (by omega) (by omega) (by omega) (by omega) (by omega)
    by_cases hm : ∃ m, m < (pu_list D).length ∧ (pu_at D m).1 = a ∧ (pu_at D m).2.1 = b ∧ (pu_at D m).2.2 = c
    · obtain ⟨m, m0, m1, m2, m3⟩ := hm
      have := (pu_at_sz D k1 m m0).2.2.2.2.2.2.1
      rw [m1, m2, m3] at this
      rw [if_pos (show zi (b * b - 4 * a * c) = zi D by rw [this]), fi1 m m0 m1 m2, e_b1, e_b1, fo1 m m0 m1 m2 m3, e_b1]
      exact ok _ _ _ _ rfl rfl rfl
    · rw [fo2 (fun m m0 h => hm ⟨m, m0, h⟩), e_b1]
      by_cases hD : b * b - 4 * a * c = D
      · rw [if_pos (show zi (b * b - 4 * a * c) = zi D by rw [hD]), fi2 (fun m m0 h => hm ⟨m, m0, h.1, h.2, by
          have := (pu_at_sz D k1 m m0).2.2.2.2.2.2.1
          rw [h.1, h.2] at this
          have h9 : 4 * a * (pu_at D m).2.2 = 4 * a * c := by omega
          exact Int.eq_of_mul_eq_mul_left (by omega) h9⟩), e_b1, e_b1]
        exact ok _ _ _ _ rfl rfl rfl
      · rw [if_neg (show ¬ zi (b * b - 4 * a * c) = zi D by rw [zi_eq (by omega) (by omega) (by omega) (by omega)]; exact hD), e_b1]
        exact ok _ _ _ _ rfl rfl rfl
