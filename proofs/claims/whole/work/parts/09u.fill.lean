def pu_ms (D : Int) (a m n : Nat) : List (Int × Int × Int) := (List.range' m n).flatMap (pu_row D a)
def pu_as (D : Int) (a n : Nat) : List (Int × Int × Int) := (List.range' a n).flatMap fun a => pu_ms D a 0 (a + 1)
theorem pu_as_eq (D : Int) : pu_as D 1 26 = pu_list D := by
  unfold pu_as pu_list pu_ms
  rw [List.range'_eq_map_range, List.flatMap_map]
  congr 1
  funext a
  rw [Nat.add_comm 1 a, List.range_eq_range']
theorem pu_ms_succ (D : Int) (a m n : Nat) : pu_ms D a m (n + 1) = pu_row D a m ++ pu_ms D a (m + 1) n := by
  unfold pu_ms; rw [List.range'_succ, List.flatMap_cons]
theorem pu_as_succ (D : Int) (a n : Nat) : pu_as D a (n + 1) = pu_ms D a 0 (a + 1) ++ pu_as D (a + 1) n := by
  unfold pu_as; rw [List.range'_succ, List.flatMap_cons]
theorem pu_ms_zero (D : Int) (a m : Nat) : pu_ms D a m 0 = [] := rfl
theorem pu_as_zero (D : Int) (a : Nat) : pu_as D a 0 = [] := rfl
/-- too large a first number has no reduced form -/
theorem pu_row_nil (D : Int) (a m : Nat) (ha : 0 < a) (hm : m ≤ a) (h : -D < 3 * (a : Int) * a) : pu_row D a m = [] := by
  unfold pu_row
  rw [if_neg]
  intro ⟨⟨h1, h2⟩, _⟩
  have h3 := Int.mul_ediv_add_emod ((m : Int) * m - D) (4 * a)
  have h4 : (4 * (a : Int)) * a ≤ (4 * a) * (((m : Int) * m - D) / (4 * a)) := Int.mul_le_mul_of_nonneg_left h2 (by omega)
  have h5 : (m : Int) * m ≤ a * a := Int.mul_le_mul (by omega) (by omega) (by omega) (by omega)
  have h6 : (4 * (a : Int)) * a = 4 * ((a : Int) * a) := Int.mul_assoc _ _ _
  have h7 : (3 * (a : Int)) * a = 3 * ((a : Int) * a) := Int.mul_assoc _ _ _
  omega
theorem pu_ms_nil (D : Int) (a : Nat) (ha : 0 < a) (h : -D < 3 * (a : Int) * a) (n : Nat) : ∀ m, m + n ≤ a + 1 → pu_ms D a m n = [] := by
  induction n with
  | zero => intro m _; rfl
  | succ n ih => intro m hm; rw [pu_ms_succ, pu_row_nil D a m ha (by omega) h, ih (m + 1) (by omega)]; rfl
theorem pu_as_nil (D : Int) (n : Nat) : ∀ a : Nat, 0 < a → -D < 3 * (a : Int) * a → pu_as D a n = [] := by
  induction n with
  | zero => intro a _ _; rfl
  | succ n ih =>
    intro a ha h
    have h2 : 3 * (a : Int) * a ≤ 3 * ((a + 1 : Nat) : Int) * ((a + 1 : Nat) : Int) := Int.mul_le_mul (by omega) (by omega) (by omega) (by omega)
    rw [pu_as_succ, pu_ms_nil D a ha h (a + 1) 0 (by omega), ih (a + 1) (by omega) (by omega)]; rfl
theorem q_fill1 (D : Int) (a : Nat) (hD1 : -2000 ≤ D) (hD2 : D ≤ -3) (ha : 0 < a) (ha2 : a ≤ 26) (K : Int32 → (Nat → Int32) → (Nat → Int32) → (Nat → Int32) → Int32 → Option (Int32 × (Nat → Int32) × (Nat → Int32) × (Nat → Int32) × Int32 × Int32)) (j : Nat) :
    ∀ (m N : Nat) (l : List (Int × Int × Int)) (fa fb fc : Nat → Int32), m + j = a + 1 → j < N → hl3 l fa fb fc → l.length ≤ 40 →
      (l.length + (pu_ms D a m j).length ≤ 40 → ∃ fa' fb' fc', f_X0_fill_L24 (zi D) (zi a) K N (zi m) fa fb fc (zi l.length) = K (zi (a + 1 : Nat)) fa' fb' fc' (zi (l ++ pu_ms D a m j).length) ∧ hl3 (l ++ pu_ms D a m j) fa' fb' fc') ∧
      (40 < l.length + (pu_ms D a m j).length → ∃ fa' fb' fc' sz', f_X0_fill_L24 (zi D) (zi a) K N (zi m) fa fb fc (zi l.length) = some (0, fa', fb', fc', zi D, sz')) := by
  induction j with
  | zero =>
    intro m N l fa fb fc hm hN H hl
    obtain ⟨N, rfl⟩ : ∃ k, N = k + 1 := ⟨N - 1, by omega⟩
    rw [pu_ms_zero, List.append_nil]
    refine ⟨fun _ => ⟨fa, fb, fc, ?_, H⟩, fun h => by simp at h; omega⟩
    rw [f_X0_fill_L24, if_pos (by rw [zi_lt (by omega) (by omega) (by omega) (by omega)]; omega), e_let, zi1, zi_add]
    rfl
  | succ j ih =>
    intro m N l fa fb fc hm hN H hl
    obtain ⟨N, rfl⟩ : ∃ k, N = k + 1 := ⟨N - 1, by omega⟩
    rw [pu_ms_succ, List.length_append]
    obtain ⟨g1, g2⟩ := q_both2 D a m hD1 hD2 ha ha2 (by omega) l fa fb fc H hl
    rw [f_X0_fill_L24, if_neg (by rw [zi_lt (by omega) (by omega) (by omega) (by omega)]; omega)]
    by_cases h40 : l.length + (pu_row D a m).length ≤ 40
    · obtain ⟨fa1, fb1, fc1, q1, H1⟩ := g1 h40
      rw [q1, e_b5, if_neg (show ¬ (1 : Int32) = 0 by decide), e_let, zi1, zi_add]
      obtain ⟨k1, k2⟩ := ih (m + 1) N (l ++ pu_row D a m) fa1 fb1 fc1 (by omega) (by omega) H1 (by rw [List.length_append]; omega)
      rw [List.length_append] at k1 k2
      rw [List.append_assoc] at k1
      constructor
      · intro h
        obtain ⟨fa2, fb2, fc2, q2, H2⟩ := k1 (by omega)
        refine ⟨fa2, fb2, fc2, ?_, H2⟩
        rw [List.length_append]
        exact q2
      · intro h
        obtain ⟨fa2, fb2, fc2, sz2, q2⟩ := k2 (by omega)
        refine ⟨fa2, fb2, fc2, sz2, ?_⟩
        rw [List.length_append]
        exact q2
    · obtain ⟨fa1, fb1, fc1, sz1, q1⟩ := g2 (by omega)
      refine ⟨fun h => by omega, fun _ => ⟨fa1, fb1, fc1, sz1, ?_⟩⟩
      rw [q1, e_b5, if_pos rfl]
theorem q_fill2 (D : Int) (hD1 : -2000 ≤ D) (hD2 : D ≤ -3) (j : Nat) :
    ∀ (a N : Nat) (l : List (Int × Int × Int)) (fa fb fc : Nat → Int32), 0 < a → a + j = 27 → j < N → hl3 l fa fb fc → l.length ≤ 40 →
      (l.length + (pu_as D a j).length ≤ 40 → ∃ fa' fb' fc', f_X0_fill_L12 (zi D) N (zi a) fa fb fc (zi l.length) = some (1, fa', fb', fc', zi D, zi (l ++ pu_as D a j).length) ∧ hl3 (l ++ pu_as D a j) fa' fb' fc') ∧
      (40 < l.length + (pu_as D a j).length → ∃ fa' fb' fc' sz', f_X0_fill_L12 (zi D) N (zi a) fa fb fc (zi l.length) = some (0, fa', fb', fc', zi D, sz')) := by
  induction j with
  | zero =>
    intro a N l fa fb fc ha hm hN H hl
    obtain ⟨N, rfl⟩ : ∃ k, N = k + 1 := ⟨N - 1, by omega⟩
    obtain rfl : a = 27 := by omega
    rw [pu_as_zero, List.append_nil]
    refine ⟨fun _ => ⟨fa, fb, fc, ?_, H⟩, fun h => by simp at h; omega⟩
    rw [f_X0_fill_L12, zi_neg, zi3, zi_mul, zi_mul, if_pos (by rw [zi_lt (by omega) (by omega) (by omega) (by omega)]; omega)]
  | succ j ih =>
    intro a N l fa fb fc ha hm hN H hl
    obtain ⟨N, rfl⟩ : ∃ k, N = k + 1 := ⟨N - 1, by omega⟩
    have hsq : 3 * (a : Int) * a ≤ 3 * 26 * 26 := Int.mul_le_mul (by omega) (by omega) (by omega) (by omega)
    have hsq0 : 0 ≤ 3 * (a : Int) * a := Int.mul_nonneg (by omega) (by omega)
    by_cases hbig : -D < 3 * (a : Int) * a
    · rw [pu_as_nil D _ a ha hbig, List.append_nil]
      refine ⟨fun _ => ⟨fa, fb, fc, ?_, H⟩, fun h => by simp at h; omega⟩
      rw [f_X0_fill_L12, zi_neg, zi3, zi_mul, zi_mul, if_pos (by rw [zi_lt (by omega) (by omega) (by omega) (by omega)]; omega)]
    rw [f_X0_fill_L12, zi_neg, zi3, zi_mul, zi_mul, if_neg (by rw [zi_lt (by omega) (by omega) (by omega) (by omega)]; omega), pu_as_succ, List.length_append]
    obtain ⟨g1, g2⟩ := q_fill1 D a hD1 hD2 ha (by omega) (fun o0 o1 o2 o3 o4 => f_X0_fill_L12 (zi D) N o0 o1 o2 o3 o4) (a + 1) 0 100000 l fa fb fc (by omega) (by omega) H hl
    by_cases h40 : l.length + (pu_ms D a 0 (a + 1)).length ≤ 40
    · obtain ⟨fa1, fb1, fc1, q1, H1⟩ := g1 h40
      obtain ⟨k1, k2⟩ := ih (a + 1) N (l ++ pu_ms D a 0 (a + 1)) fa1 fb1 fc1 (by omega) (by omega) (by omega) H1 (by rw [List.length_append]; omega)
      rw [List.append_assoc] at k1
      constructor
      · intro h
        obtain ⟨fa2, fb2, fc2, q2, H2⟩ := k1 (by rw [List.length_append]; omega)
        exact ⟨fa2, fb2, fc2, q1.trans q2, H2⟩
      · intro h
        obtain ⟨fa2, fb2, fc2, sz2, q2⟩ := k2 (by rw [List.length_append]; omega)
        exact ⟨fa2, fb2, fc2, sz2, q1.trans q2⟩
    · obtain ⟨fa1, fb1, fc1, sz1, q1⟩ := g2 (by omega)
      exact ⟨fun h => by omega, fun _ => ⟨fa1, fb1, fc1, sz1, q1⟩⟩
theorem q_fill (D : Int) (hD1 : -2000 ≤ D) (hD2 : D ≤ -3) (fa fb fc : Nat → Int32) :
    ((pu_list D).length ≤ 40 → ∃ fa' fb' fc', f_X0_fill fa fb fc (zi D) = some (1, fa', fb', fc', zi D, zi (pu_list D).length) ∧ hl3 (pu_list D) fa' fb' fc') ∧
    (40 < (pu_list D).length → ∃ fa' fb' fc' sz', f_X0_fill fa fb fc (zi D) = some (0, fa', fb', fc', zi D, sz')) := by
  have h := q_fill2 D hD1 hD2 26 1 100000 [] fa fb fc (by omega) (by omega) (by omega) (fun i h => by simp at h) (by simp)
  rw [pu_as_eq, List.nil_append] at h
  simp only [List.length_nil, Nat.zero_add] at h
  exact h
