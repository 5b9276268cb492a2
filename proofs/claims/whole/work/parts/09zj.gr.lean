/-- the reference's inverse -/
theorem g_inv {D : Int} {fa fb fc : Nat → Int32} {la lb lc : Nat → Int64} (G : gR D fa fb fc la lb lc) (k : Nat) (hk : k < (pu_list D).length) : gT D k (gO D k) = 0 ∧ ∀ j, j < gO D k → gT D k j ≠ 0 := by
  have hO := (q_opp G k hk).1
  have h3 := (g_facts D G.1 G.2.1).2.2.1 k hk
  have h3 : lidx 0 (lnth [] (gTab D) k) = gO D k := h3
  have hrow : ∀ j, gT D k j = (lnth [] (gTab D) k).getD j 0 := by
    intro j; unfold gT atN; rw [lnth_eq]
  have hlen : (lnth [] (gTab D) k).length = (pu_list D).length := by
    rw [lnth_eq]
    unfold gTab tabN
    rw [lmap_eq, List.getD_eq_getElem?_getD, List.getElem?_map, gL_eq D G.1, List.getElem?_map, List.getElem?_eq_getElem hk]
    show (lmap _ _).length = _
    rw [lmap_eq, List.length_map, List.length_map]
  refine ⟨?_, fun j hj => ?_⟩
  · rw [hrow, ← h3]; exact lidx_at 0 _ (by rw [h3, hlen]; exact hO)
  · rw [hrow]; exact lidx_bef 0 _ j (by rw [h3]; exact hj)
theorem q_invL {D : Int} {fa fb fc : Nat → Int32} {la lb lc : Nat → Int64} (G : gR D fa fb fc la lb lc) (k : Nat) (hk : k < (pu_list D).length) (j : Nat) : ∀ (i N : Nat) (z1 z2 z3 z4 z5 z6 z7 : Int64), i + j = gO D k → j < N → ∃ y1 y2 y3 y4 y5 y6 y7 : Int64, f_X4_inverseOf_L2 (zi D) (zi ((pu_list D).length)) la lb lc (zi k) N (zi i) z1 z2 z3 z4 z5 z6 z7 = some (zi (gO D k), y1, y2, y3, y4, y5, y6, y7) := by
  have h40 := G.2.1
  have hO := (q_opp G k hk).1
  obtain ⟨i1, i2⟩ := g_inv G k hk
  induction j with
  | zero =>
    intro i N z1 z2 z3 z4 z5 z6 z7 hi hN
    obtain ⟨N, rfl⟩ : ∃ m, N = m + 1 := ⟨N - 1, by omega⟩
    obtain rfl : i = gO D k := by omega
    obtain ⟨x1, x2, x3, x4, x5, x6, x7, hp⟩ := g4 G z1 z2 z3 z4 z5 z6 z7 k (gO D k) hk hO
    refine ⟨x1, x2, x3, x4, x5, x6, x7, ?_⟩
    rw [f_X4_inverseOf_L2, hp, e_b8, i1, if_pos (show zi ((0 : Nat) : Int) = 0 from rfl)]
  | succ j ih =>
    intro i N z1 z2 z3 z4 z5 z6 z7 hi hN
    obtain ⟨N, rfl⟩ : ∃ m, N = m + 1 := ⟨N - 1, by omega⟩
    obtain ⟨x1, x2, x3, x4, x5, x6, x7, hp⟩ := g4 G z1 z2 z3 z4 z5 z6 z7 k i hk (by omega)
    obtain ⟨y1, y2, y3, y4, y5, y6, y7, hr⟩ := ih (i + 1) N x1 x2 x3 x4 x5 x6 x7 (by omega) (by omega)
    have hne := i2 i (by omega)
    have hlt := gT_lt G k i hk (by omega)
    refine ⟨y1, y2, y3, y4, y5, y6, y7, ?_⟩
    rw [f_X4_inverseOf_L2, hp, e_b8, if_neg (by rw [zi0, zi_eq (by omega) (by omega) (by omega) (by omega)]; omega), e_let, zi1, zi_add]
    exact hr
theorem q_inv4 {D : Int} {fa fb fc : Nat → Int32} {la lb lc : Nat → Int64} (G : gR D fa fb fc la lb lc) (k : Nat) (hk : k < (pu_list D).length) (z1 z2 z3 z4 z5 z6 z7 : Int64) : ∃ y1 y2 y3 y4 y5 y6 y7 : Int64, f_X4_inverseOf (zi D) (zi ((pu_list D).length)) la lb lc z1 z2 z3 z4 z5 z6 z7 (zi k) = some (zi (gO D k), y1, y2, y3, y4, y5, y6, y7) := by
  have h40 := G.2.1
  have hO := (q_opp G k hk).1
  exact q_invL G k hk (gO D k) 0 100000 z1 z2 z3 z4 z5 z6 z7 (by omega) (by omega)
/-- bits -/
def btj (p : Int64) (j : Nat) : Bool := p.toBitVec.getLsbD j
theorem bt_or (v : Int64) (r j : Nat) (hr : r < 40) (hj : j < 40) : btj (v ||| ((1 : Int64) <<< ((zi r).toInt64 &&& 63))) j = (btj v j || decide (r = j)) := by
  have e : ∀ r : Fin 40, ∀ j : Fin 40, ((1 : Int64) <<< ((zi (r.val : Int)).toInt64 &&& 63)).toBitVec.getLsbD j.val = decide (r.val = j.val) := by decide +kernel
  unfold btj
  rw [Int64.toBitVec_or, BitVec.getLsbD_or, e ⟨r, hr⟩ ⟨j, hj⟩]
theorem bt_lsb (X : BitVec 64) : (X &&& 1#64 = 1#64) ↔ X.getLsbD 0 = true := by
  constructor
  · intro h
    have := congrArg (fun z => BitVec.getLsbD z 0) h
    simpa using this
  · intro h
    apply BitVec.eq_of_getLsbD_eq
    intro i hi
    rw [BitVec.getLsbD_and, BitVec.getLsbD_one]
    by_cases h0 : i = 0
    · subst h0; rw [h]; rfl
    · simp [h0]
theorem bt_test (p : Int64) (j : Nat) (hj : j < 40) : ((p >>> ((zi j).toInt64 &&& 63)) &&& (1 : Int64) = (1 : Int64)) ↔ btj p j = true := by
  have e : ∀ j : Fin 40, (((zi (j.val : Int)).toInt64 &&& 63).toBitVec.smod 64).toNat = j.val := by decide +kernel
  rw [← Int64.toBitVec_inj, Int64.toBitVec_and, Int64.toBitVec_shiftRight, show (1 : Int64).toBitVec = 1#64 from rfl, bt_lsb, BitVec.getLsbD_sshiftRight', e ⟨j, hj⟩, if_pos (by show j + 0 < 64; omega)]
  unfold btj
  simp
/-- the squares -/
theorem q_sqL {D : Int} {fa fb fc : Nat → Int32} {la lb lc : Nat → Int64} (G : gR D fa fb fc la lb lc) (j : Nat) : ∀ (i N : Nat) (v : Int64) (z1 z2 z3 z4 z5 z6 z7 : Int64), i + j = (pu_list D).length → j < N → (∀ m, m < (pu_list D).length → (btj v m = true ↔ ∃ q, q < i ∧ gT D q q = m)) → ∃ (p y1 y2 y3 y4 y5 y6 y7 : Int64), f_X4_squares_L4 (zi D) (zi ((pu_list D).length)) la lb lc N (zi i) v z1 z2 z3 z4 z5 z6 z7 = some (p, y1, y2, y3, y4, y5, y6, y7) ∧ (∀ m, m < (pu_list D).length → (btj p m = true ↔ ∃ q, q < (pu_list D).length ∧ gT D q q = m)) := by
  have h40 := G.2.1
  induction j with
  | zero =>
    intro i N v z1 z2 z3 z4 z5 z6 z7 hi hN hv
    obtain ⟨N, rfl⟩ : ∃ m, N = m + 1 := ⟨N - 1, by omega⟩
    obtain rfl : i = (pu_list D).length := by omega
    refine ⟨v, z1, z2, z3, z4, z5, z6, z7, ?_, hv⟩
    rw [f_X4_squares_L4, if_pos (by rw [zi_le (by omega) (by omega) (by omega) (by omega)]; omega)]
  | succ j ih =>
    intro i N v z1 z2 z3 z4 z5 z6 z7 hi hN hv
    obtain ⟨N, rfl⟩ : ∃ m, N = m + 1 := ⟨N - 1, by omega⟩
    obtain ⟨x1, x2, x3, x4, x5, x6, x7, hp⟩ := g4 G z1 z2 z3 z4 z5 z6 z7 i i (by omega) (by omega)
    have hlt := gT_lt G i i (by omega) (by omega)
    obtain ⟨p, y1, y2, y3, y4, y5, y6, y7, hr, hpp⟩ := ih (i + 1) N (v ||| ((1 : Int64) <<< ((zi (gT D i i : Nat)).toInt64 &&& 63))) x1 x2 x3 x4 x5 x6 x7 (by omega) (by omega) (by
      intro m hm
      rw [bt_or v (gT D i i) m (by omega) (by omega), Bool.or_eq_true, hv m hm, decide_eq_true_eq]
      constructor
      · rintro (⟨q, q1, q2⟩ | h)
        · exact ⟨q, by omega, q2⟩
        · exact ⟨i, by omega, h⟩
      · rintro ⟨q, q1, q2⟩
        by_cases hq : q = i
        · subst hq; exact Or.inr q2
        · exact Or.inl ⟨q, by omega, q2⟩)
    refine ⟨p, y1, y2, y3, y4, y5, y6, y7, ?_, hpp⟩
    rw [f_X4_squares_L4, if_neg (by rw [zi_le (by omega) (by omega) (by omega) (by omega)]; omega), hp, e_b8, e_let, e_let, zi1, zi_add]
    exact hr
theorem q_sq {D : Int} {fa fb fc : Nat → Int32} {la lb lc : Nat → Int64} (G : gR D fa fb fc la lb lc) (z1 z2 z3 z4 z5 z6 z7 : Int64) : ∃ (p y1 y2 y3 y4 y5 y6 y7 : Int64), f_X4_squares (zi D) (zi ((pu_list D).length)) la lb lc z1 z2 z3 z4 z5 z6 z7 = some (p, y1, y2, y3, y4, y5, y6, y7) ∧ (∀ m, m < (pu_list D).length → (btj p m = true ↔ ∃ q, q < (pu_list D).length ∧ gT D q q = m)) := by
  have h40 := G.2.1
  refine q_sqL G ((pu_list D).length) 0 100000 0 z1 z2 z3 z4 z5 z6 z7 (by omega) (by omega) (fun m hm => ?_)
  constructor
  · intro h; unfold btj at h; rw [show (0 : Int64).toBitVec = 0#64 from rfl, BitVec.getLsbD_zero] at h; cases h
  · rintro ⟨q, q1, _⟩; omega
/-- the genus, in the class -/
theorem q_gen1 {D : Int} {fa fb fc : Nat → Int32} {la lb lc : Nat → Int64} (G : gR D fa fb fc la lb lc) (k : Nat) (hk : k < (pu_list D).length) (j : Nat) : ∀ (i N v : Nat) (z1 z2 z3 z4 z5 z6 z7 z8 : Int32), i + j = (pu_list D).length → j < N → v < (pu_list D).length → (v ≤ k ∧ (∀ q, q < i → v ≤ gT D k (gT D q q)) ∧ (v = k ∨ ∃ q, q < (pu_list D).length ∧ v = gT D k (gT D q q))) → ∃ (v' : Nat) (y1 y2 y3 y4 y5 y6 y7 y8 : Int32), f_X0_genusOf_L4 fa fb (zi D) (zi ((pu_list D).length)) (zi k) N (zi i) (zi v) z1 z2 z3 z4 z5 z6 z7 z8 = some (zi v', y1, y2, y3, y4, y5, y6, y7, y8) ∧ (v' ≤ k ∧ (∀ q, q < (pu_list D).length → v' ≤ gT D k (gT D q q)) ∧ (v' = k ∨ ∃ q, q < (pu_list D).length ∧ v' = gT D k (gT D q q))) := by
  have h40 := G.2.1
  induction j with
  | zero =>
    intro i N v z1 z2 z3 z4 z5 z6 z7 z8 hi hN hv hvv
    obtain ⟨N, rfl⟩ : ∃ m, N = m + 1 := ⟨N - 1, by omega⟩
    obtain rfl : i = (pu_list D).length := by omega
    refine ⟨v, z1, z2, z3, z4, z5, z6, z7, z8, ?_, hvv⟩
    rw [f_X0_genusOf_L4, if_pos (by rw [zi_le (by omega) (by omega) (by omega) (by omega)]; omega)]
  | succ j ih =>
    intro i N v z1 z2 z3 z4 z5 z6 z7 z8 hi hN hv ⟨hv1, hv2, hv3⟩
    obtain ⟨N, rfl⟩ : ∃ m, N = m + 1 := ⟨N - 1, by omega⟩
    obtain ⟨x1, x2, x3, x4, x5, x6, x7, x8, hp⟩ := g1 G z1 z2 z3 z4 z5 z6 z7 z8 i i (by omega) (by omega)
    have hlt := gT_lt G i i (by omega) (by omega)
    obtain ⟨t1, t2, t3, t4, t5, t6, t7, t8, hq⟩ := g1 G x1 x2 x3 x4 x5 x6 x7 x8 k (gT D i i) hk hlt
    have hlt2 := gT_lt G k (gT D i i) hk hlt
    have hmin : (if zi (gT D k (gT D i i) : Nat) < zi (v : Nat) then zi (gT D k (gT D i i) : Nat) else zi (v : Nat)) = zi (min (gT D k (gT D i i)) v : Nat) := by
      by_cases h : gT D k (gT D i i) < v
      · rw [if_pos (by rw [zi_lt (by omega) (by omega) (by omega) (by omega)]; omega), Nat.min_eq_left (by omega)]
      · rw [if_neg (by rw [zi_lt (by omega) (by omega) (by omega) (by omega)]; omega), Nat.min_eq_right (by omega)]
    obtain ⟨v', y1, y2, y3, y4, y5, y6, y7, y8, hr, hvv⟩ := ih (i + 1) N (min (gT D k (gT D i i)) v) t1 t2 t3 t4 t5 t6 t7 t8 (by omega) (by omega) (by omega) ⟨by omega, fun q hq => by
        by_cases hqi : q = i
        · subst hqi; omega
        · have := hv2 q (by omega); omega, by
        by_cases h : gT D k (gT D i i) < v
        · right; exact ⟨i, by omega, by omega⟩
        · rw [Nat.min_eq_right (by omega)]; exact hv3⟩
    refine ⟨v', y1, y2, y3, y4, y5, y6, y7, y8, ?_, hvv⟩
    rw [f_X0_genusOf_L4, if_neg (by rw [zi_le (by omega) (by omega) (by omega) (by omega)]; omega), hp, e_b9, hq, e_b9, e_let, hmin, e_let, zi1, zi_add]
    exact hr
/-- in the reference -/
theorem q_gen4 {D : Int} {fa fb fc : Nat → Int32} {la lb lc : Nat → Int64} (G : gR D fa fb fc la lb lc) (k : Nat) (hk : k < (pu_list D).length) (p : Int64) (j : Nat) : ∀ (i N v : Nat) (z1 z2 z3 z4 z5 z6 z7 : Int64), i + j = (pu_list D).length → j < N → v < (pu_list D).length → (v ≤ k ∧ (∀ q, q < i → btj p q = true → v ≤ gT D k q) ∧ (v = k ∨ ∃ q, q < (pu_list D).length ∧ btj p q = true ∧ v = gT D k q)) → ∃ (v' : Nat) (y1 y2 y3 y4 y5 y6 y7 : Int64), f_X4_least_L6 (zi D) (zi ((pu_list D).length)) la lb lc (zi k) p N (zi i) (zi v) z1 z2 z3 z4 z5 z6 z7 = some (zi v', y1, y2, y3, y4, y5, y6, y7) ∧ (v' ≤ k ∧ (∀ q, q < (pu_list D).length → btj p q = true → v' ≤ gT D k q) ∧ (v' = k ∨ ∃ q, q < (pu_list D).length ∧ btj p q = true ∧ v' = gT D k q)) := by
  have h40 := G.2.1
  induction j with
  | zero =>
    intro i N v z1 z2 z3 z4 z5 z6 z7 hi hN hv hvv
    obtain ⟨N, rfl⟩ : ∃ m, N = m + 1 := ⟨N - 1, by omega⟩
    obtain rfl : i = (pu_list D).length := by omega
    refine ⟨v, z1, z2, z3, z4, z5, z6, z7, ?_, hvv⟩
    rw [f_X4_least_L6, if_pos (by rw [zi_le (by omega) (by omega) (by omega) (by omega)]; omega)]
  | succ j ih =>
    intro i N v z1 z2 z3 z4 z5 z6 z7 hi hN hv ⟨hv1, hv2, hv3⟩
    obtain ⟨N, rfl⟩ : ∃ m, N = m + 1 := ⟨N - 1, by omega⟩
    have hi1 : zi (i : Int) + 1 = zi (i + 1 : Nat) := by rw [zi1, zi_add]; rfl
    rw [f_X4_least_L6, if_neg (by rw [zi_le (by omega) (by omega) (by omega) (by omega)]; omega)]
    by_cases hb : btj p i = true
    · rw [if_pos ((bt_test p i (by omega)).mpr hb)]
      obtain ⟨x1, x2, x3, x4, x5, x6, x7, hp⟩ := g4 G z1 z2 z3 z4 z5 z6 z7 k i hk (by omega)
      have hlt := gT_lt G k i hk (by omega)
      rw [hp, e_b8, e_let, e_let, hi1]
      by_cases h : v ≤ gT D k i
      · rw [if_pos (by rw [zi_le (by omega) (by omega) (by omega) (by omega)]; omega)]
        exact ih (i + 1) N v x1 x2 x3 x4 x5 x6 x7 (by omega) (by omega) (by omega) ⟨hv1, fun q hq hqb => by
          by_cases hqi : q = i
          · subst hqi; exact h
          · exact hv2 q (by omega) hqb, hv3⟩
      · rw [if_neg (by rw [zi_le (by omega) (by omega) (by omega) (by omega)]; omega)]
        exact ih (i + 1) N (gT D k i) x1 x2 x3 x4 x5 x6 x7 (by omega) (by omega) (by omega) ⟨by omega, fun q hq hqb => by
          by_cases hqi : q = i
          · subst hqi; omega
          · have := hv2 q (by omega) hqb; omega, Or.inr ⟨i, by omega, hb, rfl⟩⟩
    · rw [if_neg (fun h => hb ((bt_test p i (by omega)).mp h)), if_pos (by rw [zi_le (by omega) (by omega) (by omega) (by omega)]; omega), e_let, hi1]
      exact ih (i + 1) N v z1 z2 z3 z4 z5 z6 z7 (by omega) (by omega) (by omega) ⟨hv1, fun q hq hqb => by
          by_cases hqi : q = i
          · subst hqi; exact absurd hqb hb
          · exact hv2 q (by omega) hqb, hv3⟩
/-- counting -/
theorem cntN_succ (f : Nat → Bool) (n : Nat) : cntN f (n + 1) = cond (f n) (cntN f n + 1) (cntN f n) := rfl
theorem cntN_le (f : Nat → Bool) (n : Nat) : cntN f n ≤ n := by
  induction n with
  | zero => exact Nat.le_refl 0
  | succ n ih => rw [cntN_succ]; cases f n <;> simp only [cond_true, cond_false] <;> omega
theorem cntN_congr (f g : Nat → Bool) (n : Nat) (h : ∀ i, i < n → f i = g i) : cntN f n = cntN g n := by
  induction n with
  | zero => rfl
  | succ n ih => rw [cntN_succ, cntN_succ, h n (by omega), ih (fun i hi => h i (by omega))]
theorem q_cg1 {D : Int} {fa fb fc : Nat → Int32} {la lb lc : Nat → Int64} (G : gR D fa fb fc la lb lc) (j : Nat) : ∀ (i N : Nat), i + j = (pu_list D).length → j < N → f_X0_countGenera_L4 fa fb (zi ((pu_list D).length)) N (zi i) (zi (cntN (fun k => Nat.beq (gO D k) k) i)) = some (zi (cntN (fun k => Nat.beq (gO D k) k) ((pu_list D).length))) := by
  have h40 := G.2.1
  induction j with
  | zero =>
    intro i N hi hN
    obtain ⟨N, rfl⟩ : ∃ m, N = m + 1 := ⟨N - 1, by omega⟩
    obtain rfl : i = (pu_list D).length := by omega
    rw [f_X0_countGenera_L4, if_pos (by rw [zi_le (by omega) (by omega) (by omega) (by omega)]; omega)]
  | succ j ih =>
    intro i N hi hN
    obtain ⟨N, rfl⟩ : ∃ m, N = m + 1 := ⟨N - 1, by omega⟩
    obtain ⟨o1, o2⟩ := q_opp G i (by omega)
    have h := ih (i + 1) N (by omega) (by omega)
    rw [cntN_succ] at h
    rw [f_X0_countGenera_L4, if_neg (by rw [zi_le (by omega) (by omega) (by omega) (by omega)]; omega), o2, e_b1, zi1, zi_add, zi_add, e_let, e_let, e_let]
    by_cases hb : gO D i = i
    · rw [b_true hb] at h
      rw [if_pos (by rw [hb])]
      exact h
    · rw [b_false hb] at h
      rw [if_neg (by rw [zi_eq (by omega) (by omega) (by omega) (by omega)]; omega)]
      exact h
theorem q_cg4 {D : Int} {fa fb fc : Nat → Int32} {la lb lc : Nat → Int64} (G : gR D fa fb fc la lb lc) (p w2 w3 w4 w5 w6 w7 w8 : Int64) (hne : cntN (fun q => btj p q) ((pu_list D).length) ≠ 0) (j : Nat) : ∀ (i N : Nat), i + j = (pu_list D).length → j < N → f_X4_genera_L15 (zi ((pu_list D).length)) p w2 w3 w4 w5 w6 w7 w8 N (zi i) (zi (cntN (fun q => btj p q) i)) = some (zi ((pu_list D).length / cntN (fun q => btj p q) ((pu_list D).length) : Nat), 0, w2, w3, w4, w5, w6, w7, w8) := by
  have h40 := G.2.1
  have hle := cntN_le (fun q => btj p q) ((pu_list D).length)
  induction j with
  | zero =>
    intro i N hi hN
    obtain ⟨N, rfl⟩ : ∃ m, N = m + 1 := ⟨N - 1, by omega⟩
    obtain rfl : i = (pu_list D).length := by omega
    rw [f_X4_genera_L15, if_pos (by rw [zi_le (by omega) (by omega) (by omega) (by omega)]; omega), e_g (by rw [zi0, zi_eq (by omega) (by omega) (by omega) (by omega)]; omega), zi_div (by omega) (by omega) (by omega) (by omega)]
    rfl
  | succ j ih =>
    intro i N hi hN
    obtain ⟨N, rfl⟩ : ∃ m, N = m + 1 := ⟨N - 1, by omega⟩
    have h := ih (i + 1) N (by omega) (by omega)
    rw [cntN_succ] at h
    rw [f_X4_genera_L15, if_neg (by rw [zi_le (by omega) (by omega) (by omega) (by omega)]; omega), zi1, zi_add, zi_add, e_let, e_let, e_let]
    by_cases hb : btj p i = true
    · rw [hb] at h
      rw [if_pos ((bt_test p i (by omega)).mpr hb)]
      exact h
    · rw [Bool.eq_false_iff.mpr hb] at h
      rw [if_neg (fun h => hb ((bt_test p i (by omega)).mp h))]
      exact h
theorem msN1_eq (n : Nat) : msN1 n = List.range n := by
  have h : ∀ n i, (Nat.rec (motive := fun _ => Nat → List Nat) (fun _ => []) (fun _ ih i => i :: ih (Nat.succ i)) n i : List Nat) = List.range' i n := by
    intro n
    induction n with
    | zero => intro i; rfl
    | succ n ih => intro i; rw [List.range'_succ]; exact congrArg (i :: ·) (ih (i + 1))
  rw [List.range_eq_range']
  exact h n 0
/-- a place in the row of squares -/
theorem g_sq (D : Int) (h m : Nat) : Nat.blt (lidx m (lmap (fun k => gT D k k) (msN1 h))) h = true ↔ ∃ q, q < h ∧ gT D q q = m := by
  rw [lmap_eq, msN1_eq]
  have hl : ((List.range h).map (fun k => gT D k k)).length = h := by rw [List.length_map, List.length_range]
  have hg : ∀ q, q < h → ((List.range h).map (fun k => gT D k k)).getD q 0 = gT D q q := by
    intro q hq
    rw [List.getD_eq_getElem?_getD, List.getElem?_map, List.getElem?_range hq]; rfl
  constructor
  · intro hb
    have hlt : lidx m ((List.range h).map (fun k => gT D k k)) < h := Nat.lt_of_lt_of_le (Nat.lt_succ_self _) (Nat.le_of_ble_eq_true hb)
    exact ⟨_, hlt, by rw [← hg _ hlt]; exact lidx_at m _ (by rw [hl]; exact hlt)⟩
  · rintro ⟨q, q1, q2⟩
    have hle : lidx m ((List.range h).map (fun k => gT D k k)) ≤ q := by
      rcases Nat.lt_or_ge q (lidx m ((List.range h).map (fun k => gT D k k))) with g | g
      · exact absurd ((hg q q1).trans q2) (lidx_bef m _ q g)
      · exact g
    show Nat.ble _ _ = true
    rw [Nat.ble_eq]
    show _ + 1 ≤ h
    omega
