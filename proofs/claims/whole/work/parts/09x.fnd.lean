/-! What stands in the list, and where. -/
theorem pu_mem_row {D : Int} {a m : Nat} {t : Int × Int × Int} (ha : 0 < a) (hm : m ≤ a) (h : t ∈ pu_row D a m) : t.1 = a ∧ (t.2.1 = m ∨ t.2.1 = -(m : Int)) ∧ t.2.1 * t.2.1 - 4 * t.1 * t.2.2 = D ∧ rd_done t.1 t.2.1 t.2.2 ∧ Nat.gcd (Nat.gcd a m) t.2.2.natAbs = 1 := by
  unfold pu_row at h
  have e := Int.mul_ediv_add_emod ((m : Int) * m - D) (4 * a)
  generalize ((m : Int) * m - D) % (4 * a) = rm at h e
  generalize ((m : Int) * m - D) / (4 * a) = c at h e
  by_cases hc : (rm = 0 ∧ (a : Int) ≤ c) ∧ Nat.gcd (Nat.gcd a m) c.natAbs = 1
  · rw [if_pos hc] at h
    have e2 : (m : Int) * m - 4 * a * c = D := by rw [hc.1.1] at e; omega
    rcases List.mem_cons.mp h with rfl | h
    · exact ⟨rfl, Or.inl rfl, e2, by unfold rd_done; simp only; omega, hc.2⟩
    · by_cases h2 : m = 0 ∨ m = a ∨ (a : Int) = c
      · rw [if_pos h2] at h; cases h
      · rw [if_neg h2, List.mem_singleton] at h
        subst h
        exact ⟨rfl, Or.inr rfl, by simp only; grind, by unfold rd_done; simp only; omega, hc.2⟩
  · rw [if_neg hc] at h; cases h
theorem pu_mem {D : Int} {t : Int × Int × Int} (h : t ∈ pu_list D) : 0 < t.1 ∧ t.1 ≤ 26 ∧ t.2.1 * t.2.1 - 4 * t.1 * t.2.2 = D ∧ rd_done t.1 t.2.1 t.2.2 ∧ Int.gcd (Int.gcd t.1 t.2.1) t.2.2 = 1 := by
  unfold pu_list at h
  obtain ⟨a, ha, h⟩ := List.mem_flatMap.mp h
  obtain ⟨m, hm, h⟩ := List.mem_flatMap.mp h
  rw [List.mem_range] at ha hm
  obtain ⟨h1, h2, h3, h4, h5⟩ := pu_mem_row (by omega) (by omega) h
  refine ⟨by omega, by omega, h3, h4, ?_⟩
  rw [← h5]
  rw [h1]
  rcases h2 with h2 | h2
  · rw [h2]; rfl
  · rw [h2, Int.gcd_neg]; rfl
def pu_nq (t u : Int × Int × Int) : Prop := ¬ (t.1 = u.1 ∧ t.2.1 = u.2.1)
theorem pu_row_pw (D : Int) (a m : Nat) : List.Pairwise pu_nq (pu_row D a m) := by
  unfold pu_row
  generalize ((m : Int) * m - D) % (4 * a) = rm
  generalize ((m : Int) * m - D) / (4 * a) = c
  split
  · split
    · exact List.pairwise_singleton _ _
    · refine List.pairwise_cons.mpr ⟨fun u hu => ?_, List.pairwise_singleton _ _⟩
      rw [List.mem_singleton] at hu
      subst hu
      unfold pu_nq; simp only; omega
  · exact List.Pairwise.nil
theorem pu_pw (D : Int) : List.Pairwise pu_nq (pu_list D) := by
  unfold pu_list
  rw [List.pairwise_flatMap]
  constructor
  · intro a ha
    rw [List.pairwise_flatMap]
    constructor
    · intro m hm; exact pu_row_pw D (a + 1) m
    · refine List.Pairwise.imp_of_mem ?_ List.pairwise_lt_range
      intro m m' hm hm' hlt x hx y hy
      rw [List.mem_range] at hm hm'
      have u := pu_mem_row (by omega) (by omega) hx
      have v := pu_mem_row (by omega) (by omega) hy
      unfold pu_nq
      have := u.2.1; have := v.2.1
      omega
  · refine List.Pairwise.imp_of_mem ?_ List.pairwise_lt_range
    intro a a' ha ha' hlt x hx y hy
    obtain ⟨m, hm, hx⟩ := List.mem_flatMap.mp hx
    obtain ⟨m', hm', hy⟩ := List.mem_flatMap.mp hy
    rw [List.mem_range] at hm hm'
    have u := pu_mem_row (by omega) (by omega) hx
    have v := pu_mem_row (by omega) (by omega) hy
    unfold pu_nq
    have := u.1; have := v.1
    omega
/-- the form at a place -/
def pu_at (D : Int) (i : Nat) : Int × Int × Int := (pu_list D).getD i (0, 0, 0)
theorem pu_at_eq (D : Int) (i : Nat) (h : i < (pu_list D).length) : pu_at D i = (pu_list D)[i] := by
  unfold pu_at; rw [List.getD_eq_getElem?_getD, List.getElem?_eq_getElem h]; rfl
theorem pu_at_mem (D : Int) (i : Nat) (h : i < (pu_list D).length) : pu_at D i ∈ pu_list D := by
  rw [pu_at_eq D i h]; exact List.getElem_mem h
theorem pu_at_inj (D : Int) (i j : Nat) (hi : i < (pu_list D).length) (hj : j < (pu_list D).length) (h1 : (pu_at D i).1 = (pu_at D j).1) (h2 : (pu_at D i).2.1 = (pu_at D j).2.1) : i = j := by
  have h := List.pairwise_iff_getElem.mp (pu_pw D)
  rw [pu_at_eq D i hi, pu_at_eq D j hj] at h1 h2
  rcases Nat.lt_trichotomy i j with g | g | g
  · exact absurd ⟨h1, h2⟩ (h i j hi hj g)
  · exact g
  · exact absurd ⟨h1.symm, h2.symm⟩ (h j i hj hi g)
/-- sizes -/
theorem pu_at_sz (D : Int) (hD : pu_ok D) (i : Nat) (h : i < (pu_list D).length) : 0 < (pu_at D i).1 ∧ (pu_at D i).1 ≤ 26 ∧ -26 ≤ (pu_at D i).2.1 ∧ (pu_at D i).2.1 ≤ 26 ∧ 0 < (pu_at D i).2.2 ∧ (pu_at D i).2.2 ≤ 700 ∧ (pu_at D i).2.1 * (pu_at D i).2.1 - 4 * (pu_at D i).1 * (pu_at D i).2.2 = D ∧ rd_done (pu_at D i).1 (pu_at D i).2.1 (pu_at D i).2.2 := by
  obtain ⟨h1, h2, h3, h4, _⟩ := pu_mem (pu_at_mem D i h)
  have h4' := h4
  unfold rd_done at h4'
  unfold pu_ok at hD
  generalize (pu_at D i).1 = a at *
  generalize (pu_at D i).2.1 = b at *
  generalize (pu_at D i).2.2 = c at *
  have q1 := rd_sq 26 b (by omega) (by omega) (by omega)
  have q2 : 4 * 1 * c ≤ 4 * a * c := Int.mul_le_mul_of_nonneg_right (by omega) (by omega)
  exact ⟨h1, h2, by omega, by omega, by omega, by omega, h3, h4⟩
/-- the class's search -/
theorem q_findL (D : Int) (hD : pu_ok D) (fa fb fc : Nat → Int32) (H : hl3 (pu_list D) fa fb fc) (h40 : (pu_list D).length ≤ 40) (x y : Int) (hx1 : -2147483648 ≤ x) (hx2 : x ≤ 2147483647) (hy1 : -2147483648 ≤ y) (hy2 : y ≤ 2147483647) (j : Nat) : ∀ i N : Nat, i + j = (pu_list D).length → j < N → (∀ m, i ≤ m → m < (pu_list D).length → (pu_at D m).1 = x → (pu_at D m).2.1 = y → f_X0_find_L2 fa fb (zi (pu_list D).length) (zi x) (zi y) N (zi i) = some (zi m)) ∧ ((∀ m, i ≤ m → m < (pu_list D).length → ¬ ((pu_at D m).1 = x ∧ (pu_at D m).2.1 = y)) → f_X0_find_L2 fa fb (zi (pu_list D).length) (zi x) (zi y) N (zi i) = some (zi (-1))) := by
  induction j with
  | zero =>
    intro i N hi hN
    obtain ⟨N, rfl⟩ : ∃ k, N = k + 1 := ⟨N - 1, by omega⟩
    refine ⟨fun m h1 h2 => by omega, fun _ => ?_⟩
    rw [f_X0_find_L2, if_pos (by rw [zi_le (by omega) (by omega) (by omega) (by omega)]; omega)]; rfl
  | succ j ih =>
    intro i N hi hN
    obtain ⟨N, rfl⟩ : ∃ k, N = k + 1 := ⟨N - 1, by omega⟩
    have sz := pu_at_sz D hD i (by omega)
    obtain ⟨v1, v2, v3⟩ := H i (by omega)
    have v1 : fa i = zi (pu_at D i).1 := v1
    have v2 : fb i = zi (pu_at D i).2.1 := v2
    have hni : (zi (i : Int)).toNatClampNeg = i := by rw [zi_nat (by omega) (by omega)]; omega
    have hg : ¬ (zi (i : Int) < 0 ∨ 40 ≤ (zi (i : Int)).toNatClampNeg) := by rw [zi0, zi_lt (by omega) (by omega) (by omega) (by omega), hni]; omega
    obtain ⟨k1, k2⟩ := ih (i + 1) N (by omega) (by omega)
    rw [f_X0_find_L2, if_neg (by rw [zi_le (by omega) (by omega) (by omega) (by omega)]; omega), e_g hg, e_g hg, hni, v1, v2, zi1, zi_add, e_let]
    have c1 : (zi (pu_at D i).1 = zi x) ↔ (pu_at D i).1 = x := zi_eq (by omega) (by omega) (by omega) (by omega)
    have c2 : (zi (pu_at D i).2.1 = zi y) ↔ (pu_at D i).2.1 = y := zi_eq (by omega) (by omega) (by omega) (by omega)
    simp only [c1, c2]
    by_cases m1 : (pu_at D i).1 = x
    · rw [if_pos m1]
      by_cases m2 : (pu_at D i).2.1 = y
      · rw [if_pos m2]
        refine ⟨fun m h1 h2 h3 h4 => ?_, fun h => absurd ⟨m1, m2⟩ (h i (by omega) (by omega))⟩
        rw [pu_at_inj D i m (by omega) h2 (m1.trans h3.symm) (m2.trans h4.symm)]
      · rw [if_neg m2]
        refine ⟨fun m h1 h2 h3 h4 => k1 m ?_ h2 h3 h4, fun h => k2 (fun m h1 h2 => h m (by omega) h2)⟩
        rcases Nat.lt_or_ge i m with g | g
        · omega
        · obtain rfl : m = i := by omega
          exact absurd h4 m2
    · rw [if_neg m1]
      refine ⟨fun m h1 h2 h3 h4 => k1 m ?_ h2 h3 h4, fun h => k2 (fun m h1 h2 => h m (by omega) h2)⟩
      rcases Nat.lt_or_ge i m with g | g
      · omega
      · obtain rfl : m = i := by omega
        exact absurd h3 m1
/-- the reference's search -/
theorem q_clsL (D : Int) (hD : pu_ok D) (la lb lc : Nat → Int64) (H : hl4 (pu_list D) la lb lc) (h40 : (pu_list D).length ≤ 40) (x y z : Int) (hx1 : -1000000000000 ≤ x) (hx2 : x ≤ 1000000000000) (hy1 : -1000000000000 ≤ y) (hy2 : y ≤ 1000000000000) (hz1 : -1000000000000 ≤ z) (hz2 : z ≤ 1000000000000) (j : Nat) : ∀ (i N : Nat) (f : Int32), i + j = (pu_list D).length → j < N → (∀ m, i ≤ m → m < (pu_list D).length → (pu_at D m).1 = x → (pu_at D m).2.1 = y → (pu_at D m).2.2 = z → f_X4_classOf_L6 (zi (pu_list D).length) la lb lc (zj x) (zj y) (zj z) N (zi i) f = some (zi m)) ∧ ((∀ m, i ≤ m → m < (pu_list D).length → ¬ ((pu_at D m).1 = x ∧ (pu_at D m).2.1 = y ∧ (pu_at D m).2.2 = z)) → f_X4_classOf_L6 (zi (pu_list D).length) la lb lc (zj x) (zj y) (zj z) N (zi i) f = some f) := by
  induction j with
  | zero =>
    intro i N f hi hN
    obtain ⟨N, rfl⟩ : ∃ k, N = k + 1 := ⟨N - 1, by omega⟩
    refine ⟨fun m h1 h2 => by omega, fun _ => ?_⟩
    rw [f_X4_classOf_L6, if_pos (by rw [zi_le (by omega) (by omega) (by omega) (by omega)]; omega)]
  | succ j ih =>
    intro i N f hi hN
    obtain ⟨N, rfl⟩ : ∃ k, N = k + 1 := ⟨N - 1, by omega⟩
    have sz := pu_at_sz D hD i (by omega)
    obtain ⟨v1, v2, v3⟩ := H i (by omega) (by omega)
    have v1 : la i = zj (pu_at D i).1 := v1
    have v2 : lb i = zj (pu_at D i).2.1 := v2
    have v3 : lc i = zj (pu_at D i).2.2 := v3
    have hni : (zi (i : Int)).toNatClampNeg = i := by rw [zi_nat (by omega) (by omega)]; omega
    have hg : ¬ (zi (i : Int) < 0 ∨ 40 ≤ (zi (i : Int)).toNatClampNeg) := by rw [zi0, zi_lt (by omega) (by omega) (by omega) (by omega), hni]; omega
    rw [f_X4_classOf_L6, if_neg (by rw [zi_le (by omega) (by omega) (by omega) (by omega)]; omega), e_g hg, e_g hg, e_g hg, hni, v1, v2, v3, zi1, zi_add]
    simp only [e_let]
    have c1 : (zj (pu_at D i).1 = zj x) ↔ (pu_at D i).1 = x := zj_eq (by omega) (by omega) (by omega) (by omega)
    have c2 : (zj (pu_at D i).2.1 = zj y) ↔ (pu_at D i).2.1 = y := zj_eq (by omega) (by omega) (by omega) (by omega)
    have c3 : (zj (pu_at D i).2.2 = zj z) ↔ (pu_at D i).2.2 = z := zj_eq (by omega) (by omega) (by omega) (by omega)
    simp only [c1, c2, c3]
    have step : ¬ ((pu_at D i).1 = x ∧ (pu_at D i).2.1 = y ∧ (pu_at D i).2.2 = z) → (∀ m, i ≤ m → m < (pu_list D).length → (pu_at D m).1 = x → (pu_at D m).2.1 = y → (pu_at D m).2.2 = z → f_X4_classOf_L6 (zi (pu_list D).length) la lb lc (zj x) (zj y) (zj z) N (zi (i + 1 : Nat)) f = some (zi m)) ∧ ((∀ m, i ≤ m → m < (pu_list D).length → ¬ ((pu_at D m).1 = x ∧ (pu_at D m).2.1 = y ∧ (pu_at D m).2.2 = z)) → f_X4_classOf_L6 (zi (pu_list D).length) la lb lc (zj x) (zj y) (zj z) N (zi (i + 1 : Nat)) f = some f) := by
      intro hn
      obtain ⟨k1, k2⟩ := ih (i + 1) N f (by omega) (by omega)
      refine ⟨fun m h1 h2 h3 h4 h5 => k1 m ?_ h2 h3 h4 h5, fun h => k2 (fun m h1 h2 => h m (by omega) h2)⟩
      rcases Nat.lt_or_ge i m with g | g
      · omega
      · obtain rfl : m = i := by omega
        exact absurd ⟨h3, h4, h5⟩ hn
    by_cases m1 : (pu_at D i).1 = x
    · rw [if_pos m1]
      by_cases m2 : (pu_at D i).2.1 = y
      · rw [if_pos m2]
        by_cases m3 : (pu_at D i).2.2 = z
        · rw [if_pos m3]
          obtain ⟨k1, k2⟩ := ih (i + 1) N (zi i) (by omega) (by omega)
          refine ⟨fun m h1 h2 h3 h4 h5 => ?_, fun h => absurd ⟨m1, m2, m3⟩ (h i (by omega) (by omega))⟩
          rw [← pu_at_inj D i m (by omega) h2 (m1.trans h3.symm) (m2.trans h4.symm)]
          refine k2 (fun m' g1 g2 g3 => ?_)
          have := pu_at_inj D i m' (by omega) g2 (m1.trans g3.1.symm) (m2.trans g3.2.1.symm)
          omega
        · rw [if_neg m3]; exact step (fun h => m3 h.2.2)
      · rw [if_neg m2]; exact step (fun h => m2 h.2.1)
    · rw [if_neg m1]; exact step (fun h => m1 h.1)
theorem q_find (D : Int) (hD : pu_ok D) (fa fb fc : Nat → Int32) (H : hl3 (pu_list D) fa fb fc) (h40 : (pu_list D).length ≤ 40) (x y : Int) (hx1 : -2147483648 ≤ x) (hx2 : x ≤ 2147483647) (hy1 : -2147483648 ≤ y) (hy2 : y ≤ 2147483647) : (∀ m, m < (pu_list D).length → (pu_at D m).1 = x → (pu_at D m).2.1 = y → f_X0_find fa fb (zi (pu_list D).length) (zi x) (zi y) = some (zi m)) ∧ ((∀ m, m < (pu_list D).length → ¬ ((pu_at D m).1 = x ∧ (pu_at D m).2.1 = y)) → f_X0_find fa fb (zi (pu_list D).length) (zi x) (zi y) = some (zi (-1))) := by
  obtain ⟨h1, h2⟩ := q_findL D hD fa fb fc H h40 x y hx1 hx2 hy1 hy2 (pu_list D).length 0 100000 (by omega) (by omega)
  exact ⟨fun m g => h1 m (by omega) g, fun g => h2 (fun m _ => g m)⟩
theorem q_cls (D : Int) (hD : pu_ok D) (la lb lc : Nat → Int64) (H : hl4 (pu_list D) la lb lc) (h40 : (pu_list D).length ≤ 40) (x y z : Int) (hx1 : -1000000000000 ≤ x) (hx2 : x ≤ 1000000000000) (hy1 : -1000000000000 ≤ y) (hy2 : y ≤ 1000000000000) (hz1 : -1000000000000 ≤ z) (hz2 : z ≤ 1000000000000) : (∀ m, m < (pu_list D).length → (pu_at D m).1 = x → (pu_at D m).2.1 = y → (pu_at D m).2.2 = z → f_X4_classOf (zi (pu_list D).length) la lb lc (zj x) (zj y) (zj z) = some (zi m)) ∧ ((∀ m, m < (pu_list D).length → ¬ ((pu_at D m).1 = x ∧ (pu_at D m).2.1 = y ∧ (pu_at D m).2.2 = z)) → f_X4_classOf (zi (pu_list D).length) la lb lc (zj x) (zj y) (zj z) = some (zi (-1))) := by
  obtain ⟨h1, h2⟩ := q_clsL D hD la lb lc H h40 x y z hx1 hx2 hy1 hy2 hz1 hz2 (pu_list D).length 0 100000 (zi (-1)) (by omega) (by omega)
  exact ⟨fun m g => h1 m (by omega) g, fun g => h2 (fun m _ => g m)⟩
