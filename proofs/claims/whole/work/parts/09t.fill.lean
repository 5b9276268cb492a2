/-! The class's list. -/
def hl3 (l : List (Int × Int × Int)) (fa fb fc : Nat → Int32) : Prop := ∀ i, i < l.length → fa i = zi (l.getD i (0, 0, 0)).1 ∧ fb i = zi (l.getD i (0, 0, 0)).2.1 ∧ fc i = zi (l.getD i (0, 0, 0)).2.2
theorem q_getD {α : Type} (l : List α) (x d : α) (i : Nat) (h : i < (l ++ [x]).length) : (i < l.length ∧ (l ++ [x]).getD i d = l.getD i d) ∨ (i = l.length ∧ (l ++ [x]).getD i d = x) := by
  rw [List.length_append, List.length_singleton] at h
  by_cases h1 : i < l.length
  · left; refine ⟨h1, ?_⟩
    rw [List.getD_eq_getElem?_getD, List.getD_eq_getElem?_getD, List.getElem?_append_left h1]
  · right; have : i = l.length := by omega
    refine ⟨this, ?_⟩
    subst this
    rw [List.getD_eq_getElem?_getD, List.getElem?_append_right (by omega)]
    simp
theorem q_add (l : List (Int × Int × Int)) (fa fb fc : Nat → Int32) (a b c : Int) (H : hl3 l fa fb fc) (hl : l.length < 40) : ∃ fa' fb' fc', f_X0_add fa fb fc (zi l.length) (zi a) (zi b) (zi c) = some (1, fa', fb', fc', zi (l ++ [(a, b, c)]).length) ∧ hl3 (l ++ [(a, b, c)]) fa' fb' fc' := by
  refine ⟨upd fa l.length (zi a), upd fb l.length (zi b), upd fc l.length (zi c), ?_, ?_⟩
  · rw [f_X0_add, zi40, if_pos (by rw [zi_lt (by omega) (by omega) (by omega) (by omega)]; omega), zi_nat (by omega) (by omega)]
    have hg : ¬ (zi (l.length : Int) < 0 ∨ 40 ≤ (l.length : Int).toNat) := by rw [zi0, zi_lt (by omega) (by omega) (by omega) (by omega)]; omega
    rw [e_g hg, e_g hg, e_g hg, e_let, show (l.length : Int).toNat = l.length by omega]
    rw [show zi (l.length : Int) + 1 = zi ((l ++ [(a, b, c)]).length : Nat) by rw [zi1, zi_add]; congr 1; simp]
  · intro i hi
    unfold upd
    rcases q_getD l (a, b, c) (0, 0, 0) i hi with ⟨h1, h2⟩ | ⟨h1, h2⟩
    · rw [h2, if_neg (by omega), if_neg (by omega), if_neg (by omega)]; exact H i h1
    · rw [h2, if_pos h1, if_pos h1, if_pos h1]; exact ⟨rfl, rfl, rfl⟩
theorem q_full (l : List (Int × Int × Int)) (fa fb fc : Nat → Int32) (a b c : Int32) (hl : l.length = 40) : f_X0_add fa fb fc (zi l.length) a b c = some (0, fa, fb, fc, zi l.length) := by
  rw [f_X0_add, zi40, if_neg (by rw [zi_lt (by omega) (by omega) (by omega) (by omega)]; omega)]
theorem q_prim (a b c : Int) (h1 : -2147483647 ≤ a) (h2 : a ≤ 2147483647) (h3 : -2147483647 ≤ b) (h4 : b ≤ 2147483647) (h5 : -2147483647 ≤ c) (h6 : c ≤ 2147483647) : (Int.gcd (Int.gcd a b) c = 1 → f_X3_isPrimitive (zi a) (zi b) (zi c) = some 1) ∧ (¬ Int.gcd (Int.gcd a b) c = 1 → a ≠ 0 → f_X3_isPrimitive (zi a) (zi b) (zi c) = some 0) := by
  have hg : a ≠ 0 → Int.gcd a b ≤ a.natAbs := fun h => Nat.le_of_dvd (by omega) (Int.gcd_dvd_natAbs_left a b)
  constructor
  · intro h
    have h0 : Int.gcd a b ≤ 2147483647 := by
      by_cases hz : a = 0
      · subst hz; rw [Int.zero_gcd]; omega
      · have := hg hz; omega
    rw [f_X3_isPrimitive, q_gcd a b h1 h2 h3 h4, e_b1, q_gcd _ c (by omega) (by omega) h5 h6, e_b1, h, if_pos (show zi ((1 : Nat) : Int) = 1 from rfl)]
  · intro h hz
    have h0 := hg hz
    have h00 : 0 < Int.gcd a b := Int.gcd_pos_of_ne_zero_left b hz
    have h7 : Int.gcd (Int.gcd a b : Int) c ≤ Int.gcd a b := Nat.le_of_dvd h00 (by have := Int.gcd_dvd_natAbs_left (Int.gcd a b : Int) c; simpa using this)
    rw [f_X3_isPrimitive, q_gcd a b h1 h2 h3 h4, e_b1, q_gcd _ c (by omega) (by omega) h5 h6, e_b1, zi1, if_neg (by rw [zi_eq (by omega) (by omega) (by omega) (by omega)]; omega)]
/-- the class's divides -/
theorem q_dvs (d n : Int) (h0 : 0 < d) (h1 : d ≤ 2147483647) (h2 : -2147483648 ≤ n) (h3 : n ≤ 2147483647) : f_X3_divides (zi d) (zi n) = some (if n % d = 0 then 1 else 0) := by
  have t1 := Int.tmod_lt_of_pos n h0
  have t2 := Int.lt_tmod_of_pos n h0
  have hz : ¬ zi d = 0 := by rw [zi0, zi_eq (by omega) (by omega) (by omega) (by omega)]; omega
  have c1 : (zi (n.tmod d) = 0) ↔ n % d = 0 := by rw [zi0, zi_eq (by omega) (by omega) (by omega) (by omega), ← Int.dvd_iff_tmod_eq_zero, Int.dvd_iff_emod_eq_zero]
  rw [f_X3_divides, if_neg hz, e_g hz, zi_rem (by omega) (by omega) (by omega) (by omega)]
  by_cases d1 : n % d = 0
  · rw [if_pos (c1.mpr d1), if_pos d1]
  · rw [if_neg (fun h => d1 (c1.mp h)), if_neg d1]
/-- the row of (a, m), in the list's bounds -/
theorem q_both2 (D : Int) (a m : Nat) (hD1 : -2000 ≤ D) (hD2 : D ≤ -3) (ha : 0 < a) (ha2 : a ≤ 26) (hm : m ≤ a) (l : List (Int × Int × Int)) (fa fb fc : Nat → Int32) (H : hl3 l fa fb fc) (hl : l.length ≤ 40) :
    (l.length + (pu_row D a m).length ≤ 40 → ∃ fa' fb' fc', f_X0_addBoth fa fb fc (zi D) (zi l.length) (zi a) (zi m) = some (1, fa', fb', fc', zi (l ++ pu_row D a m).length) ∧ hl3 (l ++ pu_row D a m) fa' fb' fc') ∧
    (40 < l.length + (pu_row D a m).length → ∃ fa' fb' fc' sz', f_X0_addBoth fa fb fc (zi D) (zi l.length) (zi a) (zi m) = some (0, fa', fb', fc', sz')) := by
  have hmm : (m : Int) * m ≤ 26 * 26 := Int.mul_le_mul (by omega) (by omega) (by omega) (by omega)
  have hmp : 0 ≤ (m : Int) * m := Int.mul_nonneg (by omega) (by omega)
  have hdv := Int.ediv_nonneg (show 0 ≤ (m : Int) * m - D by omega) (show (0 : Int) ≤ 4 * a by omega)
  have hdl : ((m : Int) * m - D) / (4 * a) ≤ (m : Int) * m - D := Int.ediv_le_self _ (by omega)
  rcases q_tm ((m : Int) * m - D) (4 * a) (by omega) with ⟨h, e1, e2⟩ | ⟨h, e1, e3, e2⟩ | ⟨h, e1, e3, e2⟩
  rotate_left
  · omega
  · omega
  rw [f_X0_addBoth, zi4, zi_mul, zi_mul, zi_sub, e_let, q_dvs _ _ (by omega) (by omega) (by omega) (by omega), e_b1, zi_div (by omega) (by omega) (by omega) (by omega), e2]
  have hem1 := Int.emod_nonneg ((m : Int) * m - D) (show (4 * (a : Int)) ≠ 0 by omega)
  have hem2 := Int.emod_lt_of_pos ((m : Int) * m - D) (show 0 < (4 * (a : Int)) by omega)
  obtain ⟨row, hrow⟩ : ∃ row, row = pu_row D a m := ⟨_, rfl⟩
  rw [← hrow]
  unfold pu_row at hrow
  generalize ((m : Int) * m - D) % (4 * a) = rm at *
  generalize ((m : Int) * m - D) / (4 * a) = c at *
  have hg0 : ¬ zi (4 * (a : Int)) = 0 := by rw [zi0, zi_eq (by omega) (by omega) (by omega) (by omega)]; omega
  have hno : ¬ ((rm = 0 ∧ (a : Int) ≤ c) ∧ Nat.gcd (Nat.gcd a m) c.natAbs = 1) → ∀ (X : Option (Int32 × (Nat → Int32) × (Nat → Int32) × (Nat → Int32) × Int32)), X = some (1, fa, fb, fc, zi l.length) → (l.length + row.length ≤ 40 → ∃ fa' fb' fc', X = some (1, fa', fb', fc', zi (l ++ row).length) ∧ hl3 (l ++ row) fa' fb' fc') ∧
      (40 < l.length + row.length → ∃ fa' fb' fc' sz', X = some (0, fa', fb', fc', sz')) := by
    intro hn X hX
    rw [if_neg hn] at hrow
    subst hrow
    rw [List.append_nil]
    exact ⟨fun _ => ⟨fa, fb, fc, hX, H⟩, fun h => by simp at h; omega⟩
  by_cases hr : rm = 0
  · rw [if_pos hr, if_neg (show ¬ (1 : Int32) = 0 by decide), e_g hg0, e_let]
    by_cases hca : c < a
    · rw [if_pos (by rw [zi_lt (by omega) (by omega) (by omega) (by omega)]; omega)]
      exact hno (by omega) _ rfl
    rw [if_neg (by rw [zi_lt (by omega) (by omega) (by omega) (by omega)]; omega)]
    by_cases hp : Nat.gcd (Nat.gcd a m) c.natAbs = 1
    rotate_left
    · rw [(q_prim a m c (by omega) (by omega) (by omega) (by omega) (by omega) (by omega)).2 hp (by omega), e_b1, if_pos rfl]
      exact hno (by omega) _ rfl
    rw [(q_prim a m c (by omega) (by omega) (by omega) (by omega) (by omega) (by omega)).1 hp, e_b1, if_neg (show ¬ (1 : Int32) = 0 by decide)]
    rw [if_pos ⟨⟨hr, by omega⟩, hp⟩] at hrow
    have c0 : (zi (m : Int) = 0) ↔ m = 0 := by rw [zi0, zi_eq (by omega) (by omega) (by omega) (by omega)]; omega
    have c1 : (zi (m : Int) = zi a) ↔ m = a := by rw [zi_eq (by omega) (by omega) (by omega) (by omega)]; omega
    have c2 : (zi (a : Int) = zi c) ↔ (a : Int) = c := by rw [zi_eq (by omega) (by omega) (by omega) (by omega)]
    simp only [c0, c1, c2]
    by_cases h40 : l.length = 40
    · rw [q_full l fa fb fc _ _ _ h40, e_b5]
      refine ⟨fun h => by rw [hrow] at h; simp at h; omega, fun _ => ?_⟩
      by_cases d0 : m = 0
      · rw [if_pos d0, e_g (Or.inl rfl)]; exact ⟨_, _, _, _, rfl⟩
      rw [if_neg d0]
      by_cases d1 : m = a
      · rw [if_pos d1, e_g (Or.inl rfl)]; exact ⟨_, _, _, _, rfl⟩
      rw [if_neg d1]
      by_cases d2 : (a : Int) = c
      · rw [if_pos d2, e_g (Or.inl rfl)]; exact ⟨_, _, _, _, rfl⟩
      rw [if_neg d2, if_pos rfl]; exact ⟨_, _, _, _, rfl⟩
    obtain ⟨fa1, fb1, fc1, q1, H1⟩ := q_add l fa fb fc a m c H (by omega)
    rw [q1, e_b5]
    by_cases d0 : m = 0
    · rw [if_pos (Or.inl d0)] at hrow
      subst hrow
      rw [if_pos d0, e_g (Or.inr rfl)]
      exact ⟨fun _ => ⟨_, _, _, rfl, H1⟩, fun h => by simp at h; omega⟩
    rw [if_neg d0]
    by_cases d1 : m = a
    · rw [if_pos (Or.inr (Or.inl d1))] at hrow
      subst hrow
      rw [if_pos d1, e_g (Or.inr rfl)]
      exact ⟨fun _ => ⟨_, _, _, rfl, H1⟩, fun h => by simp at h; omega⟩
    rw [if_neg d1]
    by_cases d2 : (a : Int) = c
    · rw [if_pos (Or.inr (Or.inr d2))] at hrow
      subst hrow
      rw [if_pos d2, e_g (Or.inr rfl)]
      exact ⟨fun _ => ⟨_, _, _, rfl, H1⟩, fun h => by simp at h; omega⟩
    rw [if_neg (by omega)] at hrow
    subst hrow
    rw [if_neg d2, if_neg (show ¬ (1 : Int32) = 0 by decide), zi_neg]
    by_cases h39 : (l ++ [((a : Int), (m : Int), c)]).length = 40
    · rw [q_full _ fa1 fb1 fc1 _ _ _ h39, e_b5, if_pos rfl]
      exact ⟨fun h => by simp at h h39; omega, fun _ => ⟨_, _, _, _, rfl⟩⟩
    · obtain ⟨fa2, fb2, fc2, q2, H2⟩ := q_add _ fa1 fb1 fc1 a (-m) c H1 (by simp at h39 ⊢; omega)
      rw [q2, e_b5, if_neg (show ¬ (1 : Int32) = 0 by decide)]
      rw [List.append_assoc] at H2 ⊢
      exact ⟨fun _ => ⟨_, _, _, rfl, H2⟩, fun h => by simp at h h39; omega⟩
  · rw [if_neg hr, if_pos (show (0 : Int32) = 0 from rfl)]
    exact hno (by omega) _ rfl
