theorem zi_inj {a b : Nat} (ha : a < 1000) (hb : b < 1000) (h : zi (a : Int) = zi (b : Int)) : a = b := by
  rw [zi_eq (by omega) (by omega) (by omega) (by omega)] at h; omega
theorem zi_nm {a : Nat} (ha : a < 1000) (h : zi (a : Int) = zi (-1)) : False := by
  rw [zi_eq (by omega) (by omega) (by omega) (by omega)] at h; omega
/-- the class's state beside the reference's -/
def w_rel (D : Int) (w : Int32) (o : Nat → Int32) (pt : Int32) (o4 : Nat → Int32) (dp : Nat) : Prop := ∃ q x : Nat, q < (pu_list D).length ∧ x < (pu_list D).length ∧ w = zi q ∧ o dp = zi x ∧ (∀ m, m < dp → ∃ v : Nat, v < (pu_list D).length ∧ o m = zi v ∧ o4 m = zi v) ∧ ((pt = zi q ∧ o4 dp = zi x) ∨ (pt = zi (-1) ∧ o4 dp = zi (gT D x q)))
/-- what the reference's join leaves is what the class's product leaves -/
theorem w_jr {D : Int} {fa fb fc : Nat → Int32} {la lb lc : Nat → Int64} (G : gR D fa fb fc la lb lc) {q x y y' : Nat} {pt : Int32} {o4 o4' : Nat → Int32} {dp : Nat} (hq : q < (pu_list D).length) (hx : x < (pu_list D).length) (hy : y < (pu_list D).length) (hy' : y' < (pu_list D).length) (hr : (pt = zi q ∧ o4 dp = zi x) ∨ (pt = zi (-1) ∧ o4 dp = zi (gT D x q))) (h1 : o4 dp = zi y) (h2 : o4' dp = zi y') (h3 : (pt = zi (-1) ∧ y' = y) ∨ ∃ p : Nat, p < (pu_list D).length ∧ pt = zi p ∧ y' = gT D y p) : y' = gT D x q := by
  have h40 := G.2.1
  have hg := gT_lt G x q hx hq
  rcases hr with ⟨r1, r2⟩ | ⟨r1, r2⟩
  · rcases h3 with ⟨s1, s2⟩ | ⟨p, s0, s1, s2⟩
    · exact (zi_nm (by omega) (r1.symm.trans s1)).elim
    · have e1 := zi_inj (by omega) (by omega) (r1.symm.trans s1)
      have e2 := zi_inj (by omega) (by omega) (r2.symm.trans h1)
      rw [s2, e1, e2]
  · rcases h3 with ⟨s1, s2⟩ | ⟨p, s0, s1, s2⟩
    · have e2 := zi_inj (by omega) (by omega) (r2.symm.trans h1)
      rw [s2, e2]
    · exact (zi_nm (by omega) (s1.symm.trans r1)).elim
theorem w_main {D : Int} {fa fb fc : Nat → Int32} {la lb lc : Nat → Int64} (G : gR D fa fb fc la lb lc) (row wd : Nat → Int32) (n : Nat) (hn : n ≤ 40) (hrw : w_rows row wd n) (j : Nat) : ∀ (i N1 N2 N3 N4 : Nat) (r ab pt : Int32) (dp : Nat) (t1 t2 t3 t4 t5 t6 t7 : Int64) (o4 : Nat → Int32), i + j = n → j < N1 → j < N2 → j < N3 → j < N4 → dp ≤ 4 → w_rs D pt o4 dp → ((r = 0 ∧ pt = zi (-1)) ∨ (r = 1 ∧ ∃ p : Nat, p < (pu_list D).length ∧ pt = zi p)) → (ab = 0 ∨ ab = 1) →
    (f_X2_isWellFormed_L6 row (zi n) N1 (zi i) r (zi dp) = some 0 ∧ ∃ (y1 y2 y3 y4 y5 y6 y7 : Int64) (o' : Nat → Int32), f_X4_word_L16 (zi D) (zi (pu_list D).length) la lb lc (zi n) wd N2 (zi i) ab pt (zi dp) t1 t2 t3 t4 t5 t6 t7 o4 = some (0, 1, y1, y2, y3, y4, y5, y6, y7, o')) ∨
    (f_X2_isWellFormed_L6 row (zi n) N1 (zi i) r (zi dp) = some 1 ∧ (ab = 1 ∨ f_X2_isWithin_L2 row (zi n) (zi (pu_list D).length) N3 (zi i) = some 0) ∧ ∃ (y1 y2 y3 y4 y5 y6 y7 : Int64) (o' : Nat → Int32), f_X4_word_L16 (zi D) (zi (pu_list D).length) la lb lc (zi n) wd N2 (zi i) ab pt (zi dp) t1 t2 t3 t4 t5 t6 t7 o4 = some (0, 2, y1, y2, y3, y4, y5, y6, y7, o')) ∨
    (f_X2_isWellFormed_L6 row (zi n) N1 (zi i) r (zi dp) = some 1 ∧ ab = 0 ∧ f_X2_isWithin_L2 row (zi n) (zi (pu_list D).length) N3 (zi i) = some 1 ∧ ∃ (v : Nat) (y1 y2 y3 y4 y5 y6 y7 : Int64) (o' : Nat → Int32), f_X4_word_L16 (zi D) (zi (pu_list D).length) la lb lc (zi n) wd N2 (zi i) ab pt (zi dp) t1 t2 t3 t4 t5 t6 t7 o4 = some (zi v, 0, y1, y2, y3, y4, y5, y6, y7, o') ∧ ∀ (w : Int32) (o : Nat → Int32) (z1 z2 z3 z4 z5 z6 z7 z8 : Int32), w_rel D w o pt o4 dp → ∃ (o'' : Nat → Int32) (s1 s2 s3 s4 s5 s6 s7 s8 : Int32), f_X2_valueIn_L14 row (zi n) fa fb (zi D) (zi (pu_list D).length) N4 (zi i) w (zi dp) o z1 z2 z3 z4 z5 z6 z7 z8 = some (zi v, o'', s1, s2, s3, s4, s5, s6, s7, s8)) := by
  have h40 := G.2.1
  have hpos := g_pos D G.1
  have g00 : gT D 0 0 = 0 := ((g_facts D G.1 G.2.1).2.1 0 hpos).1
  induction j with
  | zero =>
    intro i N1 N2 N3 N4 r ab pt dp t1 t2 t3 t4 t5 t6 t7 o4 hi h1 h2 h3 h4 hdp hs hr hab
    obtain ⟨N1, rfl⟩ : ∃ m, N1 = m + 1 := ⟨N1 - 1, by omega⟩
    obtain ⟨N2, rfl⟩ : ∃ m, N2 = m + 1 := ⟨N2 - 1, by omega⟩
    obtain ⟨N3, rfl⟩ : ∃ m, N3 = m + 1 := ⟨N3 - 1, by omega⟩
    obtain ⟨N4, rfl⟩ : ∃ m, N4 = m + 1 := ⟨N4 - 1, by omega⟩
    have hle : zi (n : Int) ≤ zi (i : Int) := by rw [zi_le (by omega) (by omega) (by omega) (by omega)]; omega
    rw [f_X2_isWellFormed_L6, if_pos hle, f_X4_word_L16, if_pos hle, f_X2_isWithin_L2, if_pos hle]
    by_cases hd0 : dp = 0
    · subst hd0
      rw [if_pos (show zi ((0 : Nat) : Int) = 0 from rfl), if_pos (show zi ((0 : Nat) : Int) ≤ 0 by decide)]
      rcases hab with rfl | rfl
      · right; right
        obtain ⟨y1, y2, y3, y4, y5, y6, y7, o', x, x', j1, j2, j3, j4, j5, j6, j7⟩ := w_join G pt o4 0 (by omega) hs t1 t2 t3 t4 t5 t6 t7
        have j1 : f_X4_join (zi D) (zi (pu_list D).length) la lb lc t1 t2 t3 t4 t5 t6 t7 o4 (0 : Int32) pt = some (y1, y2, y3, y4, y5, y6, y7, o') := j1
        refine ⟨rfl, rfl, rfl, x', y1, y2, y3, y4, y5, y6, y7, o', ?_, ?_⟩
        · rw [if_pos rfl, j1, h_b8, e_g (by decide)]
          show some (o' 0, _) = _
          rw [j6]
        · intro w o z1 z2 z3 z4 z5 z6 z7 z8 ⟨q, u, q1, q2, q3, q4, q5, q6⟩
          have e := w_jr G q1 q2 j3 j4 q6 j5 j6 j7
          obtain ⟨s1, s2, s3, s4, s5, s6, s7, s8, hp⟩ := g1 G z1 z2 z3 z4 z5 z6 z7 z8 u q q2 q1
          refine ⟨o, s1, s2, s3, s4, s5, s6, s7, s8, ?_⟩
          rw [f_X2_valueIn_L14, if_pos hle, e_g (by decide), show o (0 : Int32).toNatClampNeg = zi u from q4, q3, hp, h_b9, e]
      · right; left
        refine ⟨rfl, Or.inl rfl, t1, t2, t3, t4, t5, t6, t7, o4, ?_⟩
        rw [if_neg (show ¬ (1 : Int32) = 0 by decide)]
        rfl
    · left
      rw [if_neg (by rw [zi0, zi_eq (by omega) (by omega) (by omega) (by omega)]; omega), if_neg (by rw [zi0, zi_le (by omega) (by omega) (by omega) (by omega)]; omega)]
      exact ⟨rfl, t1, t2, t3, t4, t5, t6, t7, o4, rfl⟩
  | succ j ih =>
    intro i N1 N2 N3 N4 r ab pt dp t1 t2 t3 t4 t5 t6 t7 o4 hi h1 h2 h3 h4 hdp hs hr hab
    obtain ⟨N1, rfl⟩ : ∃ m, N1 = m + 1 := ⟨N1 - 1, by omega⟩
    obtain ⟨N2, rfl⟩ : ∃ m, N2 = m + 1 := ⟨N2 - 1, by omega⟩
    obtain ⟨N3, rfl⟩ : ∃ m, N3 = m + 1 := ⟨N3 - 1, by omega⟩
    obtain ⟨N4, rfl⟩ : ∃ m, N4 = m + 1 := ⟨N4 - 1, by omega⟩
    have hin : i < n := by omega
    obtain ⟨k, k1, k2, k3⟩ := hrw i hin
    unfold alw at k3
    rw [decide_eq_true_eq] at k3
    rcases k3 with rfl | rfl | hk | hk | hk
    · -- opening
      obtain ⟨y1, y2, y3, y4, y5, y6, y7, o', x, x', j1, j2, j3, j4, j5, j6, j7⟩ := w_join G pt o4 dp hdp hs t1 t2 t3 t4 t5 t6 t7
      rw [wf_open row n i dp N1 r hin hn hdp k1, rf_open D la lb lc _ n i dp N2 wd o4 o' ab pt t1 t2 t3 t4 t5 t6 t7 y1 y2 y3 y4 y5 y6 y7 hin hn hdp k2 j1, wn_not row n i 40 _ N3 hin hn k1 (by omega)]
      by_cases hd4 : dp = 4
      · rw [if_pos hd4, if_pos hd4]
        left; exact ⟨rfl, y1, y2, y3, y4, y5, y6, y7, o', rfl⟩
      rw [if_neg hd4, if_neg hd4]
      have hs' : w_rs D (zi (-1)) (upd o' (dp + 1) 0) (dp + 1) := by
        refine ⟨fun m hm => ?_, Or.inl rfl⟩
        unfold upd
        by_cases e : m = dp + 1
        · rw [if_pos e]; exact ⟨0, hpos, rfl⟩
        · rw [if_neg e]
          by_cases e2 : m = dp
          · subst e2; exact ⟨x', j4, j6⟩
          · rw [j2 m e2]; exact hs.1 m (by omega)
      rcases ih (i + 1) N1 N2 N3 N4 0 ab (zi (-1)) (dp + 1) y1 y2 y3 y4 y5 y6 y7 (upd o' (dp + 1) 0) (by omega) (by omega) (by omega) (by omega) (by omega) (by omega) hs' (Or.inl ⟨rfl, rfl⟩) hab with H | H | ⟨H1, H2, H3, v, a1, a2, a3, a4, a5, a6, a7, a8, H4, H5⟩
      · left; exact H
      · right; left; exact H
      · right; right
        refine ⟨H1, H2, H3, v, a1, a2, a3, a4, a5, a6, a7, a8, H4, ?_⟩
        intro w o z1 z2 z3 z4 z5 z6 z7 z8 ⟨q, u, q1, q2, q3, q4, q5, q6⟩
        have e := w_jr G q1 q2 j3 j4 q6 j5 j6 j7
        obtain ⟨s1, s2, s3, s4, s5, s6, s7, s8, hp⟩ := g1 G z1 z2 z3 z4 z5 z6 z7 z8 u q q2 q1
        rw [q3, vl_open row fa fb o D _ n i dp u q _ N4 z1 z2 z3 z4 z5 z6 z7 z8 s1 s2 s3 s4 s5 s6 s7 s8 hin hn (by omega) k1 q4 hp]
        refine H5 _ _ _ _ _ _ _ _ _ _ ⟨0, 0, hpos, hpos, rfl, by unfold upd; rw [if_pos rfl]; rfl, fun m hm => ?_, Or.inr ⟨rfl, by unfold upd; rw [if_pos rfl, g00]; rfl⟩⟩
        unfold upd
        simp only [if_neg (show ¬ m = dp + 1 by omega)]
        by_cases e2 : m = dp
        · simp only [if_pos e2]
          exact ⟨x', j4, by rw [e], by rw [e2]; exact j6⟩
        · simp only [if_neg e2]
          rw [j2 m e2]; exact q5 m (by omega)
    · -- closing
      obtain ⟨y1, y2, y3, y4, y5, y6, y7, o', x, x', j1, j2, j3, j4, j5, j6, j7⟩ := w_join G pt o4 dp hdp hs t1 t2 t3 t4 t5 t6 t7
      rw [wf_close row n i dp N1 r hin hn hdp k1, rf_close D la lb lc _ n i dp N2 wd o4 o' ab pt t1 t2 t3 t4 t5 t6 t7 y1 y2 y3 y4 y5 y6 y7 hin hn hdp k2 j1, wn_not row n i 41 _ N3 hin hn k1 (by omega)]
      by_cases hd4 : dp = 0
      · rw [if_pos hd4, if_pos hd4]
        left; exact ⟨rfl, y1, y2, y3, y4, y5, y6, y7, o', rfl⟩
      rw [if_neg hd4, if_neg hd4, j6]
      have hs' : w_rs D (zi x') o' (dp - 1) := by
        refine ⟨fun m hm => ?_, Or.inr ⟨x', j4, rfl⟩⟩
        rw [j2 m (by omega)]; exact hs.1 m (by omega)
      rcases ih (i + 1) N1 N2 N3 N4 1 ab (zi x') (dp - 1) y1 y2 y3 y4 y5 y6 y7 o' (by omega) (by omega) (by omega) (by omega) (by omega) (by omega) hs' (Or.inr ⟨rfl, x', j4, rfl⟩) hab with H | H | ⟨H1, H2, H3, v, a1, a2, a3, a4, a5, a6, a7, a8, H4, H5⟩
      · left; exact H
      · right; left; exact H
      · right; right
        refine ⟨H1, H2, H3, v, a1, a2, a3, a4, a5, a6, a7, a8, H4, ?_⟩
        intro w o z1 z2 z3 z4 z5 z6 z7 z8 ⟨q, u, q1, q2, q3, q4, q5, q6⟩
        have e := w_jr G q1 q2 j3 j4 q6 j5 j6 j7
        obtain ⟨s1, s2, s3, s4, s5, s6, s7, s8, hp⟩ := g1 G z1 z2 z3 z4 z5 z6 z7 z8 u q q2 q1
        rw [q3, vl_close row fa fb o D _ n i dp u q _ N4 z1 z2 z3 z4 z5 z6 z7 z8 s1 s2 s3 s4 s5 s6 s7 s8 hin hn hdp (by omega) k1 q4 hp]
        obtain ⟨c, c1, c2, c3⟩ := q5 (dp - 1) (by omega)
        refine H5 _ _ _ _ _ _ _ _ _ _ ⟨gT D u q, c, by rw [← e]; exact j4, c1, rfl, by unfold upd; rw [if_neg (by omega)]; exact c2, fun m hm => ?_, Or.inl ⟨by rw [e], by rw [j2 _ (by omega)]; exact c3⟩⟩
        unfold upd
        rw [if_neg (by omega), j2 m (by omega)]
        exact q5 m (by omega)
    · -- a digit
      rw [wf_dig row n i dp k N1 r hin hn hdp k1 hk, wn_not row n i k _ N3 hin hn k1 (by omega)]
      rcases hr with ⟨rfl, rfl⟩ | ⟨rfl, p, hp, rfl⟩
      · left
        rw [if_pos rfl]
        exact ⟨rfl, _, _, _, _, _, _, _, _, rf_dig0 D la lb lc _ n i k dp N2 wd o4 ab t1 t2 t3 t4 t5 t6 t7 hin hn k2 hk⟩
      rw [if_neg (show ¬ (1 : Int32) = 0 by decide)]
      obtain ⟨u1, u2, u3, u4, u5, u6, u7, hu⟩ := q_rais4 G p hp ((k : Int) - 48) (by omega) (by omega) t1 t2 t3 t4 t5 t6 t7
      have hlt := pw_lt G p hp (((k : Int) - 48) % (pu_list D).length).toNat
      obtain ⟨rr, hrr⟩ : ∃ rr, rr = pw D p (((k : Int) - 48) % (pu_list D).length).toNat := ⟨_, rfl⟩
      rw [← hrr] at hu hlt
      obtain ⟨y1, y2, y3, y4, y5, y6, y7, o', x, x', j1, j2, j3, j4, j5, j6, j7⟩ := w_join G (zi rr) o4 dp hdp ⟨hs.1, Or.inr ⟨rr, hlt, rfl⟩⟩ u1 u2 u3 u4 u5 u6 u7
      rw [rf_dig1 D la lb lc _ n i k dp p rr N2 wd o4 o' ab t1 t2 t3 t4 t5 t6 t7 u1 u2 u3 u4 u5 u6 u7 y1 y2 y3 y4 y5 y6 y7 hin hn k2 hk (by omega) hu j1]
      have hx' : x' = gT D x rr := by
        rcases j7 with ⟨s1, s2⟩ | ⟨p', s0, s1, s2⟩
        · exact (zi_nm (by omega) s1).elim
        · rw [s2, zi_inj (by omega) (by omega) s1]
      have hs' : w_rs D (zi (-1)) o' dp := by
        refine ⟨fun m hm => ?_, Or.inl rfl⟩
        by_cases e2 : m = dp
        · subst e2; exact ⟨x', j4, j6⟩
        · rw [j2 m e2]; exact hs.1 m hm
      rcases ih (i + 1) N1 N2 N3 N4 0 ab (zi (-1)) dp y1 y2 y3 y4 y5 y6 y7 o' (by omega) (by omega) (by omega) (by omega) (by omega) hdp hs' (Or.inl ⟨rfl, rfl⟩) hab with H | H | ⟨H1, H2, H3, v, a1, a2, a3, a4, a5, a6, a7, a8, H4, H5⟩
      · left; exact H
      · right; left; exact H
      · right; right
        refine ⟨H1, H2, H3, v, a1, a2, a3, a4, a5, a6, a7, a8, H4, ?_⟩
        intro w o z1 z2 z3 z4 z5 z6 z7 z8 ⟨q, u, q1, q2, q3, q4, q5, q6⟩
        rcases q6 with ⟨s1, s2⟩ | ⟨s1, s2⟩
        · have e1 : p = q := zi_inj (by omega) (by omega) s1
          subst e1
          have e2 : u = x := zi_inj (by omega) (by omega) (s2.symm.trans j5)
          obtain ⟨s1, s2, s3, s4, s5, s6, s7, s8, hp2⟩ := q_rais G p hp ((k : Int) - 48) (by omega) (by omega) z1 z2 z3 z4 z5 z6 z7 z8
          rw [← hrr] at hp2
          rw [q3, vl_dig row fa fb o D _ n i k dp p rr N4 z1 z2 z3 z4 z5 z6 z7 z8 s1 s2 s3 s4 s5 s6 s7 s8 hin hn k1 hk hp2]
          refine H5 _ _ _ _ _ _ _ _ _ _ ⟨rr, u, hlt, q2, rfl, q4, fun m hm => ?_, Or.inr ⟨rfl, by rw [j6, hx', e2]⟩⟩
          rw [j2 m (by omega)]; exact q5 m hm
        · exact (zi_nm (by omega) s1).elim
    · -- a capital
      obtain ⟨m, hm⟩ : ∃ m, m = k - 65 := ⟨_, rfl⟩
      obtain ⟨y1, y2, y3, y4, y5, y6, y7, o', x, x', j1, j2, j3, j4, j5, j6, j7⟩ := w_join G pt o4 dp hdp hs t1 t2 t3 t4 t5 t6 t7
      rw [wf_let row n i dp k N1 r hin hn hdp k1 (by omega), rf_cap D la lb lc _ n i k m dp N2 wd o4 o' ab pt t1 t2 t3 t4 t5 t6 t7 y1 y2 y3 y4 y5 y6 y7 hab hin hn h40 k2 ⟨hk.1, hk.2, hm⟩ j1, wn_let row n i k m _ N3 hin hn k1 (Or.inl ⟨hk.1, hk.2, hm⟩) h40]
      have hs' : ∀ p : Nat, p < (pu_list D).length → w_rs D (zi p) o' dp := by
        intro p hp
        refine ⟨fun m hm => ?_, Or.inr ⟨p, hp, rfl⟩⟩
        by_cases e2 : m = dp
        · subst e2; exact ⟨x', j4, j6⟩
        · rw [j2 m e2]; exact hs.1 m hm
      by_cases hmh : m < (pu_list D).length
      · rw [if_pos hmh, if_pos hmh]
        rcases ih (i + 1) N1 N2 N3 N4 1 ab (zi m) dp y1 y2 y3 y4 y5 y6 y7 o' (by omega) (by omega) (by omega) (by omega) (by omega) hdp (hs' m hmh) (Or.inr ⟨rfl, m, hmh, rfl⟩) hab with H | H | ⟨H1, H2, H3, v, a1, a2, a3, a4, a5, a6, a7, a8, H4, H5⟩
        · left; exact H
        · right; left; exact H
        · right; right
          refine ⟨H1, H2, H3, v, a1, a2, a3, a4, a5, a6, a7, a8, H4, ?_⟩
          intro w o z1 z2 z3 z4 z5 z6 z7 z8 ⟨q, u, q1, q2, q3, q4, q5, q6⟩
          have e := w_jr G q1 q2 j3 j4 q6 j5 j6 j7
          obtain ⟨s1, s2, s3, s4, s5, s6, s7, s8, hp⟩ := g1 G z1 z2 z3 z4 z5 z6 z7 z8 u q q2 q1
          rw [q3, vl_cap row fa fb o D _ n i dp k m u q _ N4 z1 z2 z3 z4 z5 z6 z7 z8 s1 s2 s3 s4 s5 s6 s7 s8 hin hn hdp k1 ⟨hk.1, hk.2, hm⟩ q4 hp]
          refine H5 _ _ _ _ _ _ _ _ _ _ ⟨m, x', hmh, j4, rfl, by unfold upd; rw [if_pos rfl, e], fun m' hm' => ?_, Or.inl ⟨rfl, j6⟩⟩
          unfold upd
          rw [if_neg (by omega), j2 m' (by omega)]; exact q5 m' hm'
      · rw [if_neg hmh, if_neg hmh]
        rcases ih (i + 1) N1 N2 N3 N4 1 1 (zi ((0 : Nat) : Int)) dp y1 y2 y3 y4 y5 y6 y7 o' (by omega) (by omega) (by omega) (by omega) (by omega) hdp (hs' 0 hpos) (Or.inr ⟨rfl, 0, hpos, rfl⟩) (Or.inr rfl) with H | ⟨H1, H2, H3⟩ | ⟨H1, H2, H3⟩
        · left; exact H
        · right; left; exact ⟨H1, Or.inr rfl, H3⟩
        · exact absurd H2 (by decide)
    · -- a small letter
      obtain ⟨m, hm⟩ : ∃ m, m = k - 97 := ⟨_, rfl⟩
      obtain ⟨y1, y2, y3, y4, y5, y6, y7, o', x, x', j1, j2, j3, j4, j5, j6, j7⟩ := w_join G pt o4 dp hdp hs t1 t2 t3 t4 t5 t6 t7
      have hs' : ∀ p : Nat, p < (pu_list D).length → w_rs D (zi p) o' dp := by
        intro p hp
        refine ⟨fun m hm => ?_, Or.inr ⟨p, hp, rfl⟩⟩
        by_cases e2 : m = dp
        · subst e2; exact ⟨x', j4, j6⟩
        · rw [j2 m e2]; exact hs.1 m hm
      by_cases hmh : m < (pu_list D).length
      · obtain ⟨u1, u2, u3, u4, u5, u6, u7, hu⟩ := q_inv4 G m hmh y1 y2 y3 y4 y5 y6 y7
        obtain ⟨ho1, ho2⟩ := q_opp G m hmh
        rw [wf_let row n i dp k N1 r hin hn hdp k1 (by omega), rf_sml D la lb lc _ n i k m (gO D m) dp N2 wd o4 o' ab pt t1 t2 t3 t4 t5 t6 t7 y1 y2 y3 y4 y5 y6 y7 u1 u2 u3 u4 u5 u6 u7 hab hin hn h40 k2 ⟨hk.1, hk.2, hm⟩ j1 (fun _ => hu), wn_let row n i k m _ N3 hin hn k1 (Or.inr ⟨hk.1, hk.2, hm⟩) h40]
        rw [if_pos hmh, if_pos hmh]
        rcases ih (i + 1) N1 N2 N3 N4 1 ab (zi (gO D m)) dp u1 u2 u3 u4 u5 u6 u7 o' (by omega) (by omega) (by omega) (by omega) (by omega) hdp (hs' _ ho1) (Or.inr ⟨rfl, _, ho1, rfl⟩) hab with H | H | ⟨H1, H2, H3, v, a1, a2, a3, a4, a5, a6, a7, a8, H4, H5⟩
        · left; exact H
        · right; left; exact H
        · right; right
          refine ⟨H1, H2, H3, v, a1, a2, a3, a4, a5, a6, a7, a8, H4, ?_⟩
          intro w o z1 z2 z3 z4 z5 z6 z7 z8 ⟨q, u, q1, q2, q3, q4, q5, q6⟩
          have e := w_jr G q1 q2 j3 j4 q6 j5 j6 j7
          obtain ⟨s1, s2, s3, s4, s5, s6, s7, s8, hp⟩ := g1 G z1 z2 z3 z4 z5 z6 z7 z8 u q q2 q1
          rw [q3, vl_sml row fa fb o D _ n i dp k m (gO D m) u q _ N4 z1 z2 z3 z4 z5 z6 z7 z8 s1 s2 s3 s4 s5 s6 s7 s8 hin hn hdp k1 ⟨hk.1, hk.2, hm⟩ q4 hp ho2]
          refine H5 _ _ _ _ _ _ _ _ _ _ ⟨gO D m, x', ho1, j4, rfl, by unfold upd; rw [if_pos rfl, e], fun m' hm' => ?_, Or.inl ⟨rfl, j6⟩⟩
          unfold upd
          rw [if_neg (by omega), j2 m' (by omega)]; exact q5 m' hm'
      · rw [wf_let row n i dp k N1 r hin hn hdp k1 (by omega), rf_sml D la lb lc _ n i k m 0 dp N2 wd o4 o' ab pt t1 t2 t3 t4 t5 t6 t7 y1 y2 y3 y4 y5 y6 y7 y1 y2 y3 y4 y5 y6 y7 hab hin hn h40 k2 ⟨hk.1, hk.2, hm⟩ j1 (fun h => absurd h hmh), wn_let row n i k m _ N3 hin hn k1 (Or.inr ⟨hk.1, hk.2, hm⟩) h40]
        rw [if_neg hmh, if_neg hmh]
        rcases ih (i + 1) N1 N2 N3 N4 1 1 (zi ((0 : Nat) : Int)) dp y1 y2 y3 y4 y5 y6 y7 o' (by omega) (by omega) (by omega) (by omega) (by omega) hdp (hs' 0 hpos) (Or.inr ⟨rfl, 0, hpos, rfl⟩) (Or.inr rfl) with H | ⟨H1, H2, H3⟩ | ⟨H1, H2, H3⟩
        · left; exact H
        · right; left; exact ⟨H1, Or.inr rfl, H3⟩
        · exact absurd H2 (by decide)
theorem pu_word (xcfa : Nat → Int32) (xcfb : Nat → Int32) (xcfc : Nat → Int32) (xcdd : Int32) (xcsz : Int32) (xczra : Int32) (xczrb : Int32) (xczrc : Int32) (xczrp : Int32) (xczrq : Int32) (xczrr : Int32) (xczrs : Int32) (xczrd : Int32) (xlra : Int32) (xlrb : Int32) (xlrc : Int32) (xlrp : Int32) (xlrq : Int32) (xlrr : Int32) (xlrs : Int32) (xlrd : Int32) (xany : Int32) (xwrow : Nat → Int32) (xwopn : Nat → Int32) (xwlen : Int32) (mdd : Int32) (mn : Int32) (mla : Nat → Int64) (mlb : Nat → Int64) (mlc : Nat → Int64) (ma : Int64) (mb : Int64) (mc : Int64) (mp : Int64) (mq : Int64) (mr : Int64) (ms : Int64) (msome : Int32) (mlast : Nat → Int64) (mlet : Int32) (mwd : Nat → Int32) (mopn : Nat → Int32) (hR : pu_R xcfa xcfb xcfc xcdd xcsz xany xlra xlrb xlrc xlrp xlrq xlrr xlrs xlrd xwrow xwlen mdd mn mla mlb mlc msome mlast mlet mwd)  : (∃ (rv : Int32) (xczra' : Int32) (xczrb' : Int32) (xczrc' : Int32) (xczrp' : Int32) (xczrq' : Int32) (xczrr' : Int32) (xczrs' : Int32) (xczrd' : Int32) (xwopn' : Nat → Int32) (mthr' : Int32) (ma' : Int64) (mb' : Int64) (mc' : Int64) (mp' : Int64) (mq' : Int64) (mr' : Int64) (ms' : Int64) (mopn' : Nat → Int32), f_X3_word xcfa xcfb xcdd xcsz xczra xczrb xczrc xczrp xczrq xczrr xczrs xczrd xwrow xwopn xwlen = some (.inl (rv, xczra', xczrb', xczrc', xczrp', xczrq', xczrr', xczrs', xczrd', xwopn')) ∧ f_X4_word mdd mn mla mlb mlc ma mb mc mp mq mr ms mlet mwd mopn = some (rv, mthr', ma', mb', mc', mp', mq', mr', ms', mopn') ∧ mthr' = 0 ∧ pu_R xcfa xcfb xcfc xcdd xcsz xany xlra xlrb xlrc xlrp xlrq xlrr xlrs xlrd xwrow xwlen mdd mn mla mlb mlc msome mlast mlet mwd) ∨ (∃ (xczra' : Int32) (xczrb' : Int32) (xczrc' : Int32) (xczrp' : Int32) (xczrq' : Int32) (xczrr' : Int32) (xczrs' : Int32) (xczrd' : Int32) (xwopn' : Nat → Int32) (bv : Int32) (mthr' : Int32) (ma' : Int64) (mb' : Int64) (mc' : Int64) (mp' : Int64) (mq' : Int64) (mr' : Int64) (ms' : Int64) (mopn' : Nat → Int32), f_X3_word xcfa xcfb xcdd xcsz xczra xczrb xczrc xczrp xczrq xczrr xczrs xczrd xwrow xwopn xwlen = some (.inr (.inl (xczra', xczrb', xczrc', xczrp', xczrq', xczrr', xczrs', xczrd', xwopn'))) ∧ f_X4_word mdd mn mla mlb mlc ma mb mc mp mq mr ms mlet mwd mopn = some (bv, mthr', ma', mb', mc', mp', mq', mr', ms', mopn') ∧ mthr' = 1 ∧ pu_R xcfa xcfb xcfc xcdd xcsz xany xlra xlrb xlrc xlrp xlrq xlrr xlrs xlrd xwrow xwlen mdd mn mla mlb mlc msome mlast mlet mwd) ∨ (∃ (xczra' : Int32) (xczrb' : Int32) (xczrc' : Int32) (xczrp' : Int32) (xczrq' : Int32) (xczrr' : Int32) (xczrs' : Int32) (xczrd' : Int32) (xwopn' : Nat → Int32) (bv : Int32) (mthr' : Int32) (ma' : Int64) (mb' : Int64) (mc' : Int64) (mp' : Int64) (mq' : Int64) (mr' : Int64) (ms' : Int64) (mopn' : Nat → Int32), f_X3_word xcfa xcfb xcdd xcsz xczra xczrb xczrc xczrp xczrq xczrr xczrs xczrd xwrow xwopn xwlen = some (.inr (.inr (xczra', xczrb', xczrc', xczrp', xczrq', xczrr', xczrs', xczrd', xwopn'))) ∧ f_X4_word mdd mn mla mlb mlc ma mb mc mp mq mr ms mlet mwd mopn = some (bv, mthr', ma', mb', mc', mp', mq', mr', ms', mopn') ∧ mthr' = 2 ∧ pu_R xcfa xcfb xcfc xcdd xcsz xany xlra xlrb xlrc xlrp xlrq xlrr xlrs xlrd xwrow xwlen mdd mn mla mlb mlc msome mlast mlet mwd) := by
  have hR0 := hR
  obtain ⟨D, G, e1, e2, e3, e4⟩ := g_of hR.1
  have h40 := G.2.1
  have hpos := g_pos D G.1
  have g00 : gT D 0 0 = 0 := ((g_facts D G.1 G.2.1).2.1 0 hpos).1
  have hRW := hR.2.2
  subst e1 e2 e3 e4
  rw [w_iff] at hRW
  obtain ⟨n, l1, rfl, rfl, hr⟩ := hRW
  have hs : w_rs D (zi (-1)) (upd mopn 0 0) 0 := by
    refine ⟨fun m hm => ?_, Or.inl rfl⟩
    obtain rfl : m = 0 := by omega
    unfold upd; rw [if_pos rfl]; exact ⟨0, hpos, rfl⟩
  have hx4 : f_X4_word (zi D) (zi (pu_list D).length) mla mlb mlc ma mb mc mp mq mr ms (zi n) mwd mopn = f_X4_word_L16 (zi D) (zi (pu_list D).length) mla mlb mlc (zi n) mwd 100000 (zi ((0 : Nat) : Int)) 0 (zi (-1)) (zi ((0 : Nat) : Int)) ma mb mc mp mq mr ms (upd mopn 0 0) := by
    rw [f_X4_word, e_g (by decide)]; rfl
  have hwf : f_X2_isWellFormed xwrow (zi n) = f_X2_isWellFormed_L6 xwrow (zi n) 100000 (zi ((0 : Nat) : Int)) 0 (zi ((0 : Nat) : Int)) := by
    rw [f_X2_isWellFormed]; rfl
  have hwn : f_X2_isWithin xwrow (zi n) (zi (pu_list D).length) = f_X2_isWithin_L2 xwrow (zi n) (zi (pu_list D).length) 100000 (zi ((0 : Nat) : Int)) := by
    rw [f_X2_isWithin]; rfl
  have hvl : f_X2_valueIn xwrow xwopn (zi n) xcfa xcfb (zi D) (zi (pu_list D).length) xczra xczrb xczrc xczrp xczrq xczrr xczrs xczrd = f_X2_valueIn_L14 xwrow (zi n) xcfa xcfb (zi D) (zi (pu_list D).length) 100000 (zi ((0 : Nat) : Int)) (zi ((0 : Nat) : Int)) (zi ((0 : Nat) : Int)) (upd xwopn 0 0) xczra xczrb xczrc xczrp xczrq xczrr xczrs xczrd := by
    rw [f_X2_valueIn, e_g (by decide)]; rfl
  rw [f_X3_word, hx4, hwf, hwn, hvl]
  rcases w_main G xwrow mwd n l1 hr n 0 100000 100000 100000 100000 0 0 (zi (-1)) 0 ma mb mc mp mq mr ms (upd mopn 0 0) (by omega) (by omega) (by omega) (by omega) (by omega) (by omega) hs (Or.inl ⟨rfl, rfl⟩) (Or.inl rfl) with ⟨H1, y1, y2, y3, y4, y5, y6, y7, o', H2⟩ | ⟨H1, H3, y1, y2, y3, y4, y5, y6, y7, o', H2⟩ | ⟨H1, _, H3, v, y1, y2, y3, y4, y5, y6, y7, o', H2, H5⟩
  · right; left
    rw [H1, H2, e_b1, if_pos rfl]
    exact ⟨_, _, _, _, _, _, _, _, _, _, _, _, _, _, _, _, _, _, _, rfl, rfl, rfl, hR0⟩
  · right; right
    rcases H3 with H3 | H3
    · exact absurd H3 (by decide)
    rw [H1, H2, e_b1, if_neg (show ¬ (1 : Int32) = 0 by decide), H3, e_b1, if_pos rfl]
    exact ⟨_, _, _, _, _, _, _, _, _, _, _, _, _, _, _, _, _, _, _, rfl, rfl, rfl, hR0⟩
  · left
    obtain ⟨o'', s1, s2, s3, s4, s5, s6, s7, s8, H6⟩ := H5 (zi ((0 : Nat) : Int)) (upd xwopn 0 0) xczra xczrb xczrc xczrp xczrq xczrr xczrs xczrd ⟨0, 0, hpos, hpos, rfl, rfl, fun m hm => by omega, Or.inr ⟨rfl, by rw [g00]; rfl⟩⟩
    rw [H1, H2, e_b1, if_neg (show ¬ (1 : Int32) = 0 by decide), H3, e_b1, if_neg (show ¬ (1 : Int32) = 0 by decide), H6, e_b10]
    exact ⟨_, _, _, _, _, _, _, _, _, _, _, _, _, _, _, _, _, _, _, rfl, rfl, rfl, hR0⟩
