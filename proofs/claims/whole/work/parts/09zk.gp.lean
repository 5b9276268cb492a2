theorem g_of {xcfa xcfb xcfc : Nat → Int32} {xcdd xcsz mdd mn : Int32} {mla mlb mlc : Nat → Int64} (h : pu_RL xcfa xcfb xcfc xcdd xcsz mdd mn mla mlb mlc) : ∃ D, gR D xcfa xcfb xcfc mla mlb mlc ∧ xcdd = zi D ∧ xcsz = zi ((pu_list D).length) ∧ mdd = zi D ∧ mn = zi ((pu_list D).length) := by
  rw [pu_RL_iff] at h
  obtain ⟨D, k1, k2, k3, k4, k5, k6, k7, k8⟩ := h
  exact ⟨D, ⟨k1, k2, k7, k8⟩, k3, k5, k4, k6⟩
theorem pu_compose (xcfa : Nat → Int32) (xcfb : Nat → Int32) (xcfc : Nat → Int32) (xcdd : Int32) (xcsz : Int32) (xczra : Int32) (xczrb : Int32) (xczrc : Int32) (xczrp : Int32) (xczrq : Int32) (xczrr : Int32) (xczrs : Int32) (xczrd : Int32) (xlra : Int32) (xlrb : Int32) (xlrc : Int32) (xlrp : Int32) (xlrq : Int32) (xlrr : Int32) (xlrs : Int32) (xlrd : Int32) (xany : Int32) (xwrow : Nat → Int32) (xwlen : Int32) (mdd : Int32) (mn : Int32) (mla : Nat → Int64) (mlb : Nat → Int64) (mlc : Nat → Int64) (ma : Int64) (mb : Int64) (mc : Int64) (mp : Int64) (mq : Int64) (mr : Int64) (ms : Int64) (msome : Int32) (mlast : Nat → Int64) (mlet : Int32) (mwd : Nat → Int32) (hR : pu_R xcfa xcfb xcfc xcdd xcsz xany xlra xlrb xlrc xlrp xlrq xlrr xlrs xlrd xwrow xwlen mdd mn mla mlb mlc msome mlast mlet mwd) (p0 : Int32) (p1 : Int32) : (∃ (rv : Int32) (xczra' : Int32) (xczrb' : Int32) (xczrc' : Int32) (xczrp' : Int32) (xczrq' : Int32) (xczrr' : Int32) (xczrs' : Int32) (xczrd' : Int32) (mthr' : Int32) (ma' : Int64) (mb' : Int64) (mc' : Int64) (mp' : Int64) (mq' : Int64) (mr' : Int64) (ms' : Int64), f_X3_compose xcfa xcfb xcdd xcsz xczra xczrb xczrc xczrp xczrq xczrr xczrs xczrd p0 p1 = some (.inl (rv, xczra', xczrb', xczrc', xczrp', xczrq', xczrr', xczrs', xczrd')) ∧ f_X4_compose mdd mn mla mlb mlc ma mb mc mp mq mr ms p0 p1 = some (rv, mthr', ma', mb', mc', mp', mq', mr', ms') ∧ mthr' = 0 ∧ pu_R xcfa xcfb xcfc xcdd xcsz xany xlra xlrb xlrc xlrp xlrq xlrr xlrs xlrd xwrow xwlen mdd mn mla mlb mlc msome mlast mlet mwd) ∨ (∃ (xczra' : Int32) (xczrb' : Int32) (xczrc' : Int32) (xczrp' : Int32) (xczrq' : Int32) (xczrr' : Int32) (xczrs' : Int32) (xczrd' : Int32) (bv : Int32) (mthr' : Int32) (ma' : Int64) (mb' : Int64) (mc' : Int64) (mp' : Int64) (mq' : Int64) (mr' : Int64) (ms' : Int64), f_X3_compose xcfa xcfb xcdd xcsz xczra xczrb xczrc xczrp xczrq xczrr xczrs xczrd p0 p1 = some (.inr (xczra', xczrb', xczrc', xczrp', xczrq', xczrr', xczrs', xczrd')) ∧ f_X4_compose mdd mn mla mlb mlc ma mb mc mp mq mr ms p0 p1 = some (bv, mthr', ma', mb', mc', mp', mq', mr', ms') ∧ mthr' = 1 ∧ pu_R xcfa xcfb xcfc xcdd xcsz xany xlra xlrb xlrc xlrp xlrq xlrr xlrs xlrd xwrow xwlen mdd mn mla mlb mlc msome mlast mlet mwd) := by
  have hR0 := hR
  obtain ⟨D, G, e1, e2, e3, e4⟩ := g_of hR.1
  have h40 := G.2.1
  subst e1 e2 e3 e4
  have ga1 := zi_ge p0
  have ga2 := zi_gt p0
  have gb1 := zi_ge p1
  have gb2 := zi_gt p1
  rw [zi_of p0, zi_of p1]
  generalize p0.toInt = j at ga1 ga2
  generalize p1.toInt = k at gb1 gb2
  rw [f_X3_compose, f_X4_compose]
  by_cases hj : 0 ≤ j ∧ j < (pu_list D).length
  rotate_left
  · right
    obtain ⟨u1, u2⟩ := (q_has ((pu_list D).length) j ga1 ga2 (by omega) (by omega)).2 hj
    rw [u1, u2, e_b1, e_b1, if_pos rfl, if_pos rfl]
    exact ⟨_, _, _, _, _, _, _, _, _, _, _, _, _, _, _, _, _, rfl, rfl, rfl, hR0⟩
  obtain ⟨u1, u2⟩ := (q_has ((pu_list D).length) j ga1 ga2 (by omega) (by omega)).1 hj
  rw [u1, u2, e_b1, e_b1, if_neg (show ¬ (1 : Int32) = 0 by decide), if_neg (show ¬ (1 : Int32) = 0 by decide)]
  by_cases hk : 0 ≤ k ∧ k < (pu_list D).length
  rotate_left
  · right
    obtain ⟨u1, u2⟩ := (q_has ((pu_list D).length) k gb1 gb2 (by omega) (by omega)).2 hk
    rw [u1, u2, e_b1, e_b1, if_pos rfl, if_pos rfl]
    exact ⟨_, _, _, _, _, _, _, _, _, _, _, _, _, _, _, _, _, rfl, rfl, rfl, hR0⟩
  obtain ⟨u1, u2⟩ := (q_has ((pu_list D).length) k gb1 gb2 (by omega) (by omega)).1 hk
  rw [u1, u2, e_b1, e_b1, if_neg (show ¬ (1 : Int32) = 0 by decide), if_neg (show ¬ (1 : Int32) = 0 by decide)]
  left
  obtain ⟨j, rfl⟩ : ∃ m : Nat, j = m := ⟨j.toNat, by omega⟩
  obtain ⟨k, rfl⟩ : ∃ m : Nat, k = m := ⟨k.toNat, by omega⟩
  obtain ⟨z1, z2, z3, z4, z5, z6, z7, z8, hz⟩ := g1 G xczra xczrb xczrc xczrp xczrq xczrr xczrs xczrd j k (by omega) (by omega)
  obtain ⟨w1, w2, w3, w4, w5, w6, w7, hw⟩ := g4 G ma mb mc mp mq mr ms j k (by omega) (by omega)
  rw [hz, hw, e_b9, e_b8]
  exact ⟨_, _, _, _, _, _, _, _, _, _, _, _, _, _, _, _, _, rfl, rfl, rfl, hR0⟩
theorem pu_inverse (xcfa : Nat → Int32) (xcfb : Nat → Int32) (xcfc : Nat → Int32) (xcdd : Int32) (xcsz : Int32) (xlra : Int32) (xlrb : Int32) (xlrc : Int32) (xlrp : Int32) (xlrq : Int32) (xlrr : Int32) (xlrs : Int32) (xlrd : Int32) (xany : Int32) (xwrow : Nat → Int32) (xwlen : Int32) (mdd : Int32) (mn : Int32) (mla : Nat → Int64) (mlb : Nat → Int64) (mlc : Nat → Int64) (ma : Int64) (mb : Int64) (mc : Int64) (mp : Int64) (mq : Int64) (mr : Int64) (ms : Int64) (msome : Int32) (mlast : Nat → Int64) (mlet : Int32) (mwd : Nat → Int32) (hR : pu_R xcfa xcfb xcfc xcdd xcsz xany xlra xlrb xlrc xlrp xlrq xlrr xlrs xlrd xwrow xwlen mdd mn mla mlb mlc msome mlast mlet mwd) (p0 : Int32) : (∃ (rv : Int32) (mthr' : Int32) (ma' : Int64) (mb' : Int64) (mc' : Int64) (mp' : Int64) (mq' : Int64) (mr' : Int64) (ms' : Int64), f_X3_inverse xcfa xcfb xcsz p0 = some (.inl rv) ∧ f_X4_inverse mdd mn mla mlb mlc ma mb mc mp mq mr ms p0 = some (rv, mthr', ma', mb', mc', mp', mq', mr', ms') ∧ mthr' = 0 ∧ pu_R xcfa xcfb xcfc xcdd xcsz xany xlra xlrb xlrc xlrp xlrq xlrr xlrs xlrd xwrow xwlen mdd mn mla mlb mlc msome mlast mlet mwd) ∨ (∃ (bv : Int32) (mthr' : Int32) (ma' : Int64) (mb' : Int64) (mc' : Int64) (mp' : Int64) (mq' : Int64) (mr' : Int64) (ms' : Int64), f_X3_inverse xcfa xcfb xcsz p0 = some (.inr ()) ∧ f_X4_inverse mdd mn mla mlb mlc ma mb mc mp mq mr ms p0 = some (bv, mthr', ma', mb', mc', mp', mq', mr', ms') ∧ mthr' = 1 ∧ pu_R xcfa xcfb xcfc xcdd xcsz xany xlra xlrb xlrc xlrp xlrq xlrr xlrs xlrd xwrow xwlen mdd mn mla mlb mlc msome mlast mlet mwd) := by
  have hR0 := hR
  obtain ⟨D, G, e1, e2, e3, e4⟩ := g_of hR.1
  have h40 := G.2.1
  subst e1 e2 e3 e4
  have gb1 := zi_ge p0
  have gb2 := zi_gt p0
  rw [zi_of p0]
  generalize p0.toInt = k at gb1 gb2
  rw [f_X3_inverse, f_X4_inverse]
  by_cases hk : 0 ≤ k ∧ k < (pu_list D).length
  rotate_left
  · right
    obtain ⟨u1, u2⟩ := (q_has ((pu_list D).length) k gb1 gb2 (by omega) (by omega)).2 hk
    rw [u1, u2, e_b1, e_b1, if_pos rfl, if_pos rfl]
    exact ⟨_, _, _, _, _, _, _, _, _, rfl, rfl, rfl, hR0⟩
  obtain ⟨u1, u2⟩ := (q_has ((pu_list D).length) k gb1 gb2 (by omega) (by omega)).1 hk
  rw [u1, u2, e_b1, e_b1, if_neg (show ¬ (1 : Int32) = 0 by decide), if_neg (show ¬ (1 : Int32) = 0 by decide)]
  left
  obtain ⟨k, rfl⟩ : ∃ m : Nat, k = m := ⟨k.toNat, by omega⟩
  obtain ⟨o1, o2⟩ := q_opp G k (by omega)
  obtain ⟨w1, w2, w3, w4, w5, w6, w7, hw⟩ := q_inv4 G k (by omega) ma mb mc mp mq mr ms
  rw [o2, hw, e_b1, e_b8]
  exact ⟨_, _, _, _, _, _, _, _, _, rfl, rfl, rfl, hR0⟩
theorem pu_power (xcfa : Nat → Int32) (xcfb : Nat → Int32) (xcfc : Nat → Int32) (xcdd : Int32) (xcsz : Int32) (xczra : Int32) (xczrb : Int32) (xczrc : Int32) (xczrp : Int32) (xczrq : Int32) (xczrr : Int32) (xczrs : Int32) (xczrd : Int32) (xlra : Int32) (xlrb : Int32) (xlrc : Int32) (xlrp : Int32) (xlrq : Int32) (xlrr : Int32) (xlrs : Int32) (xlrd : Int32) (xany : Int32) (xwrow : Nat → Int32) (xwlen : Int32) (mdd : Int32) (mn : Int32) (mla : Nat → Int64) (mlb : Nat → Int64) (mlc : Nat → Int64) (ma : Int64) (mb : Int64) (mc : Int64) (mp : Int64) (mq : Int64) (mr : Int64) (ms : Int64) (msome : Int32) (mlast : Nat → Int64) (mlet : Int32) (mwd : Nat → Int32) (hR : pu_R xcfa xcfb xcfc xcdd xcsz xany xlra xlrb xlrc xlrp xlrq xlrr xlrs xlrd xwrow xwlen mdd mn mla mlb mlc msome mlast mlet mwd) (p0 : Int32) (p1 : Int32) : (∃ (rv : Int32) (xczra' : Int32) (xczrb' : Int32) (xczrc' : Int32) (xczrp' : Int32) (xczrq' : Int32) (xczrr' : Int32) (xczrs' : Int32) (xczrd' : Int32) (mthr' : Int32) (ma' : Int64) (mb' : Int64) (mc' : Int64) (mp' : Int64) (mq' : Int64) (mr' : Int64) (ms' : Int64), f_X3_power xcfa xcfb xcdd xcsz xczra xczrb xczrc xczrp xczrq xczrr xczrs xczrd p0 p1 = some (.inl (rv, xczra', xczrb', xczrc', xczrp', xczrq', xczrr', xczrs', xczrd')) ∧ f_X4_power mdd mn mla mlb mlc ma mb mc mp mq mr ms p0 p1 = some (rv, mthr', ma', mb', mc', mp', mq', mr', ms') ∧ mthr' = 0 ∧ pu_R xcfa xcfb xcfc xcdd xcsz xany xlra xlrb xlrc xlrp xlrq xlrr xlrs xlrd xwrow xwlen mdd mn mla mlb mlc msome mlast mlet mwd) ∨ (∃ (xczra' : Int32) (xczrb' : Int32) (xczrc' : Int32) (xczrp' : Int32) (xczrq' : Int32) (xczrr' : Int32) (xczrs' : Int32) (xczrd' : Int32) (bv : Int32) (mthr' : Int32) (ma' : Int64) (mb' : Int64) (mc' : Int64) (mp' : Int64) (mq' : Int64) (mr' : Int64) (ms' : Int64), f_X3_power xcfa xcfb xcdd xcsz xczra xczrb xczrc xczrp xczrq xczrr xczrs xczrd p0 p1 = some (.inr (xczra', xczrb', xczrc', xczrp', xczrq', xczrr', xczrs', xczrd')) ∧ f_X4_power mdd mn mla mlb mlc ma mb mc mp mq mr ms p0 p1 = some (bv, mthr', ma', mb', mc', mp', mq', mr', ms') ∧ mthr' = 1 ∧ pu_R xcfa xcfb xcfc xcdd xcsz xany xlra xlrb xlrc xlrp xlrq xlrr xlrs xlrd xwrow xwlen mdd mn mla mlb mlc msome mlast mlet mwd) := by
  have hR0 := hR
  obtain ⟨D, G, e1, e2, e3, e4⟩ := g_of hR.1
  have h40 := G.2.1
  subst e1 e2 e3 e4
  have gb1 := zi_ge p0
  have gb2 := zi_gt p0
  have ga1 := zi_ge p1
  have ga2 := zi_gt p1
  rw [zi_of p0, zi_of p1]
  generalize p0.toInt = k at gb1 gb2
  generalize p1.toInt = n at ga1 ga2
  rw [f_X3_power, f_X4_power]
  by_cases hk : 0 ≤ k ∧ k < (pu_list D).length
  rotate_left
  · right
    obtain ⟨u1, u2⟩ := (q_has ((pu_list D).length) k gb1 gb2 (by omega) (by omega)).2 hk
    rw [u1, u2, e_b1, e_b1, if_pos rfl, if_pos rfl]
    exact ⟨_, _, _, _, _, _, _, _, _, _, _, _, _, _, _, _, _, rfl, rfl, rfl, hR0⟩
  obtain ⟨u1, u2⟩ := (q_has ((pu_list D).length) k gb1 gb2 (by omega) (by omega)).1 hk
  rw [u1, u2, e_b1, e_b1, if_neg (show ¬ (1 : Int32) = 0 by decide), if_neg (show ¬ (1 : Int32) = 0 by decide)]
  left
  obtain ⟨k, rfl⟩ : ∃ m : Nat, k = m := ⟨k.toNat, by omega⟩
  obtain ⟨z1, z2, z3, z4, z5, z6, z7, z8, hz⟩ := q_rais G k (by omega) n ga1 ga2 xczra xczrb xczrc xczrp xczrq xczrr xczrs xczrd
  obtain ⟨w1, w2, w3, w4, w5, w6, w7, hw⟩ := q_rais4 G k (by omega) n ga1 ga2 ma mb mc mp mq mr ms
  rw [hz, hw, e_b9, e_b8]
  exact ⟨_, _, _, _, _, _, _, _, _, _, _, _, _, _, _, _, _, rfl, rfl, rfl, hR0⟩
theorem pu_order (xcfa : Nat → Int32) (xcfb : Nat → Int32) (xcfc : Nat → Int32) (xcdd : Int32) (xcsz : Int32) (xczra : Int32) (xczrb : Int32) (xczrc : Int32) (xczrp : Int32) (xczrq : Int32) (xczrr : Int32) (xczrs : Int32) (xczrd : Int32) (xlra : Int32) (xlrb : Int32) (xlrc : Int32) (xlrp : Int32) (xlrq : Int32) (xlrr : Int32) (xlrs : Int32) (xlrd : Int32) (xany : Int32) (xwrow : Nat → Int32) (xwlen : Int32) (mdd : Int32) (mn : Int32) (mla : Nat → Int64) (mlb : Nat → Int64) (mlc : Nat → Int64) (ma : Int64) (mb : Int64) (mc : Int64) (mp : Int64) (mq : Int64) (mr : Int64) (ms : Int64) (msome : Int32) (mlast : Nat → Int64) (mlet : Int32) (mwd : Nat → Int32) (hR : pu_R xcfa xcfb xcfc xcdd xcsz xany xlra xlrb xlrc xlrp xlrq xlrr xlrs xlrd xwrow xwlen mdd mn mla mlb mlc msome mlast mlet mwd) (p0 : Int32) : (∃ (rv : Int32) (xczra' : Int32) (xczrb' : Int32) (xczrc' : Int32) (xczrp' : Int32) (xczrq' : Int32) (xczrr' : Int32) (xczrs' : Int32) (xczrd' : Int32) (mthr' : Int32) (ma' : Int64) (mb' : Int64) (mc' : Int64) (mp' : Int64) (mq' : Int64) (mr' : Int64) (ms' : Int64), f_X3_order xcfa xcfb xcdd xcsz xczra xczrb xczrc xczrp xczrq xczrr xczrs xczrd p0 = some (.inl (rv, xczra', xczrb', xczrc', xczrp', xczrq', xczrr', xczrs', xczrd')) ∧ f_X4_order mdd mn mla mlb mlc ma mb mc mp mq mr ms p0 = some (rv, mthr', ma', mb', mc', mp', mq', mr', ms') ∧ mthr' = 0 ∧ pu_R xcfa xcfb xcfc xcdd xcsz xany xlra xlrb xlrc xlrp xlrq xlrr xlrs xlrd xwrow xwlen mdd mn mla mlb mlc msome mlast mlet mwd) ∨ (∃ (xczra' : Int32) (xczrb' : Int32) (xczrc' : Int32) (xczrp' : Int32) (xczrq' : Int32) (xczrr' : Int32) (xczrs' : Int32) (xczrd' : Int32) (bv : Int32) (mthr' : Int32) (ma' : Int64) (mb' : Int64) (mc' : Int64) (mp' : Int64) (mq' : Int64) (mr' : Int64) (ms' : Int64), f_X3_order xcfa xcfb xcdd xcsz xczra xczrb xczrc xczrp xczrq xczrr xczrs xczrd p0 = some (.inr (xczra', xczrb', xczrc', xczrp', xczrq', xczrr', xczrs', xczrd')) ∧ f_X4_order mdd mn mla mlb mlc ma mb mc mp mq mr ms p0 = some (bv, mthr', ma', mb', mc', mp', mq', mr', ms') ∧ mthr' = 1 ∧ pu_R xcfa xcfb xcfc xcdd xcsz xany xlra xlrb xlrc xlrp xlrq xlrr xlrs xlrd xwrow xwlen mdd mn mla mlb mlc msome mlast mlet mwd) := by
  have hR0 := hR
  obtain ⟨D, G, e1, e2, e3, e4⟩ := g_of hR.1
  have h40 := G.2.1
  subst e1 e2 e3 e4
  have gb1 := zi_ge p0
  have gb2 := zi_gt p0
  rw [zi_of p0]
  generalize p0.toInt = k at gb1 gb2
  rw [f_X3_order, f_X4_order]
  by_cases hk : 0 ≤ k ∧ k < (pu_list D).length
  rotate_left
  · right
    obtain ⟨u1, u2⟩ := (q_has ((pu_list D).length) k gb1 gb2 (by omega) (by omega)).2 hk
    rw [u1, u2, e_b1, e_b1, if_pos rfl, if_pos rfl]
    exact ⟨_, _, _, _, _, _, _, _, _, _, _, _, _, _, _, _, _, rfl, rfl, rfl, hR0⟩
  obtain ⟨u1, u2⟩ := (q_has ((pu_list D).length) k gb1 gb2 (by omega) (by omega)).1 hk
  rw [u1, u2, e_b1, e_b1, if_neg (show ¬ (1 : Int32) = 0 by decide), if_neg (show ¬ (1 : Int32) = 0 by decide)]
  left
  obtain ⟨k, rfl⟩ : ∃ m : Nat, k = m := ⟨k.toNat, by omega⟩
  obtain ⟨o, o1, o2, o3, o4, o5⟩ := g_ord G k (by omega)
  obtain ⟨z1, z2, z3, z4, z5, z6, z7, z8, hz⟩ := q_ord1 G k o (by omega) o1 o2 o3 o4 xczra xczrb xczrc xczrp xczrq xczrr xczrs xczrd
  obtain ⟨w1, w2, w3, w4, w5, w6, w7, hw⟩ := q_ord4 G k o (by omega) o1 o2 o3 o4 ma mb mc mp mq mr ms
  rw [hz, hw, e_b9, e_b8]
  exact ⟨_, _, _, _, _, _, _, _, _, _, _, _, _, _, _, _, _, rfl, rfl, rfl, hR0⟩
theorem pu_genus (xcfa : Nat → Int32) (xcfb : Nat → Int32) (xcfc : Nat → Int32) (xcdd : Int32) (xcsz : Int32) (xczra : Int32) (xczrb : Int32) (xczrc : Int32) (xczrp : Int32) (xczrq : Int32) (xczrr : Int32) (xczrs : Int32) (xczrd : Int32) (xlra : Int32) (xlrb : Int32) (xlrc : Int32) (xlrp : Int32) (xlrq : Int32) (xlrr : Int32) (xlrs : Int32) (xlrd : Int32) (xany : Int32) (xwrow : Nat → Int32) (xwlen : Int32) (mdd : Int32) (mn : Int32) (mla : Nat → Int64) (mlb : Nat → Int64) (mlc : Nat → Int64) (ma : Int64) (mb : Int64) (mc : Int64) (mp : Int64) (mq : Int64) (mr : Int64) (ms : Int64) (msome : Int32) (mlast : Nat → Int64) (mlet : Int32) (mwd : Nat → Int32) (hR : pu_R xcfa xcfb xcfc xcdd xcsz xany xlra xlrb xlrc xlrp xlrq xlrr xlrs xlrd xwrow xwlen mdd mn mla mlb mlc msome mlast mlet mwd) (p0 : Int32) : (∃ (rv : Int32) (xczra' : Int32) (xczrb' : Int32) (xczrc' : Int32) (xczrp' : Int32) (xczrq' : Int32) (xczrr' : Int32) (xczrs' : Int32) (xczrd' : Int32) (mthr' : Int32) (ma' : Int64) (mb' : Int64) (mc' : Int64) (mp' : Int64) (mq' : Int64) (mr' : Int64) (ms' : Int64), f_X3_genus xcfa xcfb xcdd xcsz xczra xczrb xczrc xczrp xczrq xczrr xczrs xczrd p0 = some (.inl (rv, xczra', xczrb', xczrc', xczrp', xczrq', xczrr', xczrs', xczrd')) ∧ f_X4_genus mdd mn mla mlb mlc ma mb mc mp mq mr ms p0 = some (rv, mthr', ma', mb', mc', mp', mq', mr', ms') ∧ mthr' = 0 ∧ pu_R xcfa xcfb xcfc xcdd xcsz xany xlra xlrb xlrc xlrp xlrq xlrr xlrs xlrd xwrow xwlen mdd mn mla mlb mlc msome mlast mlet mwd) ∨ (∃ (xczra' : Int32) (xczrb' : Int32) (xczrc' : Int32) (xczrp' : Int32) (xczrq' : Int32) (xczrr' : Int32) (xczrs' : Int32) (xczrd' : Int32) (bv : Int32) (mthr' : Int32) (ma' : Int64) (mb' : Int64) (mc' : Int64) (mp' : Int64) (mq' : Int64) (mr' : Int64) (ms' : Int64), f_X3_genus xcfa xcfb xcdd xcsz xczra xczrb xczrc xczrp xczrq xczrr xczrs xczrd p0 = some (.inr (xczra', xczrb', xczrc', xczrp', xczrq', xczrr', xczrs', xczrd')) ∧ f_X4_genus mdd mn mla mlb mlc ma mb mc mp mq mr ms p0 = some (bv, mthr', ma', mb', mc', mp', mq', mr', ms') ∧ mthr' = 1 ∧ pu_R xcfa xcfb xcfc xcdd xcsz xany xlra xlrb xlrc xlrp xlrq xlrr xlrs xlrd xwrow xwlen mdd mn mla mlb mlc msome mlast mlet mwd) := by
  have hR0 := hR
  obtain ⟨D, G, e1, e2, e3, e4⟩ := g_of hR.1
  have h40 := G.2.1
  subst e1 e2 e3 e4
  have gb1 := zi_ge p0
  have gb2 := zi_gt p0
  rw [zi_of p0]
  generalize p0.toInt = k at gb1 gb2
  rw [f_X3_genus, f_X4_genus]
  by_cases hk : 0 ≤ k ∧ k < (pu_list D).length
  rotate_left
  · right
    obtain ⟨u1, u2⟩ := (q_has ((pu_list D).length) k gb1 gb2 (by omega) (by omega)).2 hk
    rw [u1, u2, e_b1, e_b1, if_pos rfl, if_pos rfl]
    exact ⟨_, _, _, _, _, _, _, _, _, _, _, _, _, _, _, _, _, rfl, rfl, rfl, hR0⟩
  obtain ⟨u1, u2⟩ := (q_has ((pu_list D).length) k gb1 gb2 (by omega) (by omega)).1 hk
  rw [u1, u2, e_b1, e_b1, if_neg (show ¬ (1 : Int32) = 0 by decide), if_neg (show ¬ (1 : Int32) = 0 by decide)]
  left
  obtain ⟨k, rfl⟩ : ∃ m : Nat, k = m := ⟨k.toNat, by omega⟩
  obtain ⟨v, z1, z2, z3, z4, z5, z6, z7, z8, hz, hv1, hv2, hv3⟩ := q_gen1 G k (by omega) ((pu_list D).length) 0 100000 k xczra xczrb xczrc xczrp xczrq xczrr xczrs xczrd (by omega) (by omega) (by omega) ⟨Nat.le_refl k, fun q hq => by omega, Or.inl rfl⟩
  obtain ⟨p, s1, s2, s3, s4, s5, s6, s7, hs, hsp⟩ := q_sq G ma mb mc mp mq mr ms
  obtain ⟨v', w1, w2, w3, w4, w5, w6, w7, hw, hw1, hw2, hw3⟩ := q_gen4 G k (by omega) p ((pu_list D).length) 0 100000 k s1 s2 s3 s4 s5 s6 s7 (by omega) (by omega) (by omega) ⟨Nat.le_refl k, fun q hq => by omega, Or.inl rfl⟩
  have hvv : v = v' := by
    apply Nat.le_antisymm
    · rcases hw3 with h | ⟨q, q1, q2, q3⟩
      · omega
      · obtain ⟨i, i1, i2⟩ := (hsp q q1).mp q2
        have := hv2 i i1
        rw [i2] at this
        omega
    · rcases hv3 with h | ⟨q, q1, q3⟩
      · omega
      · have hlt := gT_lt G q q q1 q1
        have := hw2 (gT D q q) hlt ((hsp _ hlt).mpr ⟨q, q1, rfl⟩)
        omega
  subst hvv
  have hz : f_X0_genusOf xcfa xcfb (zi D) (zi ((pu_list D).length)) xczra xczrb xczrc xczrp xczrq xczrr xczrs xczrd (zi k) = some (zi v, z1, z2, z3, z4, z5, z6, z7, z8) := hz
  have hw : f_X4_least (zi D) (zi ((pu_list D).length)) mla mlb mlc s1 s2 s3 s4 s5 s6 s7 (zi k) p = some (zi v, w1, w2, w3, w4, w5, w6, w7) := hw
  rw [hz, hs, e_b9, e_b8, hw, e_b8]
  exact ⟨_, _, _, _, _, _, _, _, _, _, _, _, _, _, _, _, _, rfl, rfl, rfl, hR0⟩
theorem pu_genera (xcfa : Nat → Int32) (xcfb : Nat → Int32) (xcfc : Nat → Int32) (xcdd : Int32) (xcsz : Int32) (xlra : Int32) (xlrb : Int32) (xlrc : Int32) (xlrp : Int32) (xlrq : Int32) (xlrr : Int32) (xlrs : Int32) (xlrd : Int32) (xany : Int32) (xwrow : Nat → Int32) (xwlen : Int32) (mdd : Int32) (mn : Int32) (mla : Nat → Int64) (mlb : Nat → Int64) (mlc : Nat → Int64) (ma : Int64) (mb : Int64) (mc : Int64) (mp : Int64) (mq : Int64) (mr : Int64) (ms : Int64) (msome : Int32) (mlast : Nat → Int64) (mlet : Int32) (mwd : Nat → Int32) (hR : pu_R xcfa xcfb xcfc xcdd xcsz xany xlra xlrb xlrc xlrp xlrq xlrr xlrs xlrd xwrow xwlen mdd mn mla mlb mlc msome mlast mlet mwd)  : (∃ (rv : Int32) (mthr' : Int32) (ma' : Int64) (mb' : Int64) (mc' : Int64) (mp' : Int64) (mq' : Int64) (mr' : Int64) (ms' : Int64), f_X3_genera xcfa xcfb xcsz = some rv ∧ f_X4_genera mdd mn mla mlb mlc ma mb mc mp mq mr ms = some (rv, mthr', ma', mb', mc', mp', mq', mr', ms') ∧ pu_R xcfa xcfb xcfc xcdd xcsz xany xlra xlrb xlrc xlrp xlrq xlrr xlrs xlrd xwrow xwlen mdd mn mla mlb mlc msome mlast mlet mwd) := by
  have hR0 := hR
  obtain ⟨D, G, e1, e2, e3, e4⟩ := g_of hR.1
  have h40 := G.2.1
  subst e1 e2 e3 e4
  obtain ⟨p, s1, s2, s3, s4, s5, s6, s7, hs, hsp⟩ := q_sq G ma mb mc mp mq mr ms
  obtain ⟨f1, f2⟩ := (g_facts D G.1 G.2.1).2.2.2.2
  have hc1 : cntN (fun j => Nat.blt (lidx j (lmap (fun k => gT D k k) (msN1 ((pu_list D).length)))) ((pu_list D).length)) ((pu_list D).length) = cntN (fun q => btj p q) ((pu_list D).length) := by
    apply cntN_congr
    intro i hi
    rw [Bool.eq_iff_iff, g_sq, hsp i hi]
  have hc2 : cntN (fun k => Nat.beq (oppN (gK D) ((pu_list D).length) k (lnth 0 (gL D) k)) k) ((pu_list D).length) = cntN (fun k => Nat.beq (gO D k) k) ((pu_list D).length) := by
    apply cntN_congr
    intro i hi
    unfold gO
    rw [lnth_eq, gL_at D G.1 i hi]
  have f1 : cntN (fun j => Nat.blt (lidx j (lmap (fun k => gT D k k) (msN1 ((pu_list D).length)))) ((pu_list D).length)) ((pu_list D).length) ≠ 0 := f1
  have f2 : (pu_list D).length / cntN (fun j => Nat.blt (lidx j (lmap (fun k => gT D k k) (msN1 ((pu_list D).length)))) ((pu_list D).length)) ((pu_list D).length) = cntN (fun k => Nat.beq (oppN (gK D) ((pu_list D).length) k (lnth 0 (gL D) k)) k) ((pu_list D).length) := f2
  rw [hc1] at f1
  rw [hc1, hc2] at f2
  have hz := q_cg1 G ((pu_list D).length) 0 100000 (by omega) (by omega)
  have hz : f_X0_countGenera xcfa xcfb (zi ((pu_list D).length)) = some (zi (cntN (fun k => Nat.beq (gO D k) k) ((pu_list D).length))) := hz
  have hw := q_cg4 G p s1 s2 s3 s4 s5 s6 s7 f1 ((pu_list D).length) 0 100000 (by omega) (by omega)
  have hw : f_X4_genera (zi D) (zi ((pu_list D).length)) mla mlb mlc ma mb mc mp mq mr ms = some (zi ((pu_list D).length / cntN (fun q => btj p q) ((pu_list D).length) : Nat), 0, s1, s2, s3, s4, s5, s6, s7) := by
    rw [f_X4_genera, hs, e_b8]; exact hw
  rw [f_X3_genera, hz, hw, e_b1, f2]
  exact ⟨_, _, _, _, _, _, _, _, _, rfl, rfl, hR0⟩
