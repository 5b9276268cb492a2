/-! The reference's list. -/
def hl4 (l : List (Int × Int × Int)) (la lb lc : Nat → Int64) : Prop := ∀ i, i < l.length → i < 40 → la i = zj (l.getD i (0, 0, 0)).1 ∧ lb i = zj (l.getD i (0, 0, 0)).2.1 ∧ lc i = zj (l.getD i (0, 0, 0)).2.2
def lb_body (p0 v1 : Int32) (k4 : Int32 → Int32 → (Nat → Int64) → (Nat → Int64) → (Nat → Int64) → Option (Int32 × Int32 × Int32 × (Nat → Int64) × (Nat → Int64) × (Nat → Int64))) (n : Nat) (v7 v8 : Int32) (v9 v10 v11 : Nat → Int64) (x16 : Int32) : Option (Int32 × Int32 × Int32 × (Nat → Int64) × (Nat → Int64) × (Nat → Int64)) :=
          dm_let ((x16 * x16) - p0) fun x17 =>
          dm_g (¬ ((4 : Int32) * v1) = 0) <|
          dm_let (x17 / ((4 : Int32) * v1)) fun x19 =>
          dm_g (¬ ((4 : Int32) * v1) = 0) <|
          if (x17 - x17 / ((4 : Int32) * v1) * ((4 : Int32) * v1)) = 0 then
            dm_b1 (f_X4_isReduced (v1).toInt64 (x16).toInt64 (x19).toInt64) fun r23 =>
            if r23 = 0 then
              dm_let (v7 + (1 : Int32)) fun x26 =>
              f_X4_list_L13 p0 v1 k4 n x26 v8 v9 v10 v11
            else
              dm_b1 (f_X4_primitive (v1).toInt64 (x16).toInt64 (x19).toInt64) fun r27 =>
              if r27 = 0 then
                dm_let (v7 + (1 : Int32)) fun x41 =>
                f_X4_list_L13 p0 v1 k4 n x41 v8 v9 v10 v11
              else
                if (40 : Int32) ≤ v8 then
                  dm_let (v8 + (1 : Int32)) fun x31 =>
                  dm_let (v7 + (1 : Int32)) fun x32 =>
                  f_X4_list_L13 p0 v1 k4 n x32 x31 v9 v10 v11
                else
                  dm_let (v1).toInt64 fun x33 =>
                  dm_g (¬ (v8 < 0 ∨ 40 ≤ (v8).toNatClampNeg)) <|
                  dm_let (x16).toInt64 fun x35 =>
                  dm_g (¬ (v8 < 0 ∨ 40 ≤ (v8).toNatClampNeg)) <|
                  dm_let (x19).toInt64 fun x37 =>
                  dm_g (¬ (v8 < 0 ∨ 40 ≤ (v8).toNatClampNeg)) <|
                  dm_let (v8 + (1 : Int32)) fun x39 =>
                  dm_let (v7 + (1 : Int32)) fun x40 =>
                  f_X4_list_L13 p0 v1 k4 n x40 x39 (vp_updL v9 (v8).toNatClampNeg x33) (vp_updL v10 (v8).toNatClampNeg x35) (vp_updL v11 (v8).toNatClampNeg x37)
          else
            dm_let (v7 + (1 : Int32)) fun x22 =>
            f_X4_list_L13 p0 v1 k4 n x22 v8 v9 v10 v11
theorem lb_eq (p0 v1 : Int32) (k4 : Int32 → Int32 → (Nat → Int64) → (Nat → Int64) → (Nat → Int64) → Option (Int32 × Int32 × Int32 × (Nat → Int64) × (Nat → Int64) × (Nat → Int64))) (n : Nat) (v7 v8 : Int32) (v9 v10 v11 : Nat → Int64) : f_X4_list_L13 p0 v1 k4 (n + 1) v7 v8 v9 v10 v11 = if (((2 : Int32) * v1) + (1 : Int32)) ≤ v7 then k4 (v1 + 1) v8 v9 v10 v11 else if v7 = 0 then lb_body p0 v1 k4 n v7 v8 v9 v10 v11 0 else if (v7 - v7 / (2 : Int32) * (2 : Int32)) = (1 : Int32) then lb_body p0 v1 k4 n v7 v8 v9 v10 v11 ((v7 + (1 : Int32)) / (2 : Int32)) else lb_body p0 v1 k4 n v7 v8 v9 v10 v11 ((-v7) / (2 : Int32)) := by
  rw [f_X4_list_L13]
  simp only [lb_body, dm_let]
theorem q_prim4 (a b c : Int) (h1 : a.natAbs < 2 ^ 40) (h3 : b.natAbs < 2 ^ 40) (h5 : c.natAbs < 2 ^ 40) (hz : a ≠ 0) : (Int.gcd (Int.gcd a b) c = 1 → f_X4_primitive (zj a) (zj b) (zj c) = some 1) ∧ (¬ Int.gcd (Int.gcd a b) c = 1 → f_X4_primitive (zj a) (zj b) (zj c) = some 0) := by
  have h0 : Int.gcd a b ≤ a.natAbs := Nat.le_of_dvd (by omega) (Int.gcd_dvd_natAbs_left a b)
  have h00 : 0 < Int.gcd a b := Int.gcd_pos_of_ne_zero_left b hz
  have h7 : Int.gcd (Int.gcd a b : Int) c ≤ Int.gcd a b := Nat.le_of_dvd h00 (by have := Int.gcd_dvd_natAbs_left (Int.gcd a b : Int) c; simpa using this)
  rw [f_X4_primitive, q_com a b h1 h3, e_b1, q_com _ c (by omega) h5, e_b1]
  constructor
  · intro h
    rw [h, if_pos (show zj ((1 : Nat) : Int) = 1 from rfl)]
  · intro h
    rw [zj1, if_neg (by rw [zj_eq (by omega) (by omega) (by omega) (by omega)]; omega)]
/-- what the reference adds for the middle number b -/
def pu_one (D : Int) (a : Nat) (b : Int) : List (Int × Int × Int) :=
  if (b * b - D) % (4 * a) = 0 ∧ ((b ≤ a ∧ -b ≤ a) ∧ (a : Int) ≤ ((b * b - D) / (4 * a)) ∧ (0 ≤ b ∨ (-b ≠ a ∧ (a : Int) ≠ ((b * b - D) / (4 * a))))) ∧ Int.gcd (Int.gcd a b) ((b * b - D) / (4 * a)) = 1 then [((a : Int), b, (b * b - D) / (4 * a))] else []
theorem q_body (D b : Int) (a : Nat) (hD1 : -2000 ≤ D) (hD2 : D ≤ -3) (ha : 0 < a) (ha2 : a ≤ 26) (hb1 : -(a : Int) ≤ b) (hb2 : b ≤ a) (K : Int32 → Int32 → (Nat → Int64) → (Nat → Int64) → (Nat → Int64) → Option (Int32 × Int32 × Int32 × (Nat → Int64) × (Nat → Int64) × (Nat → Int64))) (n k : Nat) (hk : k ≤ 60) (l : List (Int × Int × Int)) (la lb lc : Nat → Int64) (H : hl4 l la lb lc) (hl : l.length ≤ 10000) :
    ∃ la' lb' lc', lb_body (zi D) (zi a) K n (zi k) (zi l.length) la lb lc (zi b) = f_X4_list_L13 (zi D) (zi a) K n (zi (k + 1 : Nat)) (zi (l ++ pu_one D a b).length) la' lb' lc' ∧ hl4 (l ++ pu_one D a b) la' lb' lc' := by
  have hmm : b * b ≤ a * a := rd_sq a b (by omega) hb1 hb2
  have hm2 : (a : Int) * a ≤ 26 * 26 := Int.mul_le_mul (by omega) (by omega) (by omega) (by omega)
  have hmp : 0 ≤ b * b := by
    rcases Int.le_total 0 b with h | h
    · exact Int.mul_nonneg h h
    · have := Int.mul_nonneg (show 0 ≤ -b by omega) (show 0 ≤ -b by omega); grind
  have hdv := Int.ediv_nonneg (show 0 ≤ b * b - D by omega) (show (0 : Int) ≤ 4 * a by omega)
  have hdl : (b * b - D) / (4 * a) ≤ b * b - D := Int.ediv_le_self _ (by omega)
  have hk1 : zi (k : Int) + 1 = zi (k + 1 : Nat) := by rw [zi1, zi_add]; rfl
  rcases q_tm (b * b - D) (4 * a) (by omega) with ⟨h, e1, e2⟩ | ⟨h, e1, e3, e2⟩ | ⟨h, e1, e3, e2⟩
  rotate_left
  · omega
  · omega
  have hg0 : ¬ zi (4 * (a : Int)) = 0 := by rw [zi0, zi_eq (by omega) (by omega) (by omega) (by omega)]; omega
  rw [lb_body, zi4, zi_mul, zi_mul, zi_sub, e_let, e_g hg0, e_let, e_g hg0, zi_rem (by omega) (by omega) (by omega) (by omega), zi_div (by omega) (by omega) (by omega) (by omega), e1, e2]
  have hem1 := Int.emod_nonneg (b * b - D) (show (4 * (a : Int)) ≠ 0 by omega)
  have hem2 := Int.emod_lt_of_pos (b * b - D) (show 0 < (4 * (a : Int)) by omega)
  obtain ⟨row, hrow⟩ : ∃ row, row = pu_one D a b := ⟨_, rfl⟩
  rw [← hrow]
  unfold pu_one at hrow
  generalize (b * b - D) % (4 * a) = rm at *
  generalize (b * b - D) / (4 * a) = c at *
  rw [zi_zj (by omega) (by omega), zi_zj (by omega) (by omega), zi_zj (by omega) (by omega)]
  simp only [e_let, hk1]
  by_cases hr : rm = 0
  rotate_left
  · rw [if_neg (by omega)] at hrow
    subst hrow
    rw [if_neg (by rw [zi0, zi_eq (by omega) (by omega) (by omega) (by omega)]; omega), List.append_nil]
    exact ⟨_, _, _, rfl, H⟩
  rw [if_pos (show zi rm = 0 by rw [hr]; rfl)]
  by_cases hd : rd_done a b c
  rotate_left
  · rw [if_neg (fun h => hd h.2.1)] at hrow
    subst hrow
    rw [(q_red4 (by omega) (by omega) (by omega) (by omega) (by omega) (by omega)).2 hd, e_b1, if_pos rfl, List.append_nil]
    exact ⟨_, _, _, rfl, H⟩
  rw [(q_red4 (by omega) (by omega) (by omega) (by omega) (by omega) (by omega)).1 hd, e_b1, if_neg (show ¬ (1 : Int32) = 0 by decide)]
  by_cases hp : Int.gcd (Int.gcd a b) c = 1
  rotate_left
  · rw [if_neg (fun h => hp h.2.2)] at hrow
    subst hrow
    rw [(q_prim4 a b c (by omega) (by omega) (by omega) (by omega)).2 hp, e_b1, if_pos rfl, List.append_nil]
    exact ⟨_, _, _, rfl, H⟩
  rw [if_pos ⟨hr, hd, hp⟩] at hrow
  subst hrow
  rw [(q_prim4 a b c (by omega) (by omega) (by omega) (by omega)).1 hp, e_b1, if_neg (show ¬ (1 : Int32) = 0 by decide), zi40]
  have hl1 : zi (l.length : Int) + 1 = zi (l ++ [((a : Int), b, c)]).length := by rw [zi1, zi_add]; congr 1; simp
  rw [hl1, zi_nat (by omega) (by omega), show (l.length : Int).toNat = l.length by omega]
  by_cases h40 : 40 ≤ l.length
  · rw [if_pos (by rw [zi_le (by omega) (by omega) (by omega) (by omega)]; omega)]
    refine ⟨_, _, _, rfl, ?_⟩
    intro i hi hi2
    rcases q_getD l ((a : Int), b, c) (0, 0, 0) i hi with ⟨h1, h2⟩ | ⟨h1, h2⟩
    · rw [h2]; exact H i h1 hi2
    · omega
  · have hg : ¬ (zi (l.length : Int) < 0 ∨ 40 ≤ l.length) := by rw [zi0, zi_lt (by omega) (by omega) (by omega) (by omega)]; omega
    rw [if_neg (by rw [zi_le (by omega) (by omega) (by omega) (by omega)]; omega), e_g hg, e_g hg, e_g hg]
    refine ⟨_, _, _, rfl, ?_⟩
    intro i hi hi2
    unfold vp_updL
    rcases q_getD l ((a : Int), b, c) (0, 0, 0) i hi with ⟨h1, h2⟩ | ⟨h1, h2⟩
    · rw [h2, if_neg (by omega), if_neg (by omega), if_neg (by omega)]; exact H i h1 hi2
    · rw [h2, if_pos h1, if_pos h1, if_pos h1]; exact ⟨rfl, rfl, rfl⟩
def pu_bk (k : Nat) : Int := if k = 0 then 0 else if k % 2 = 1 then ((k + 1) / 2 : Nat) else -((k / 2 : Nat) : Int)
def pu_ks (D : Int) (a k n : Nat) : List (Int × Int × Int) := (List.range' k n).flatMap fun k => pu_one D a (pu_bk k)
theorem pu_one_len (D : Int) (a : Nat) (b : Int) : (pu_one D a b).length ≤ 1 := by
  unfold pu_one; split <;> simp
theorem pu_ks_succ (D : Int) (a k n : Nat) : pu_ks D a k (n + 1) = pu_one D a (pu_bk k) ++ pu_ks D a (k + 1) n := by
  unfold pu_ks; rw [List.range'_succ, List.flatMap_cons]
theorem pu_ks_len (D : Int) (a n : Nat) : ∀ k, (pu_ks D a k n).length ≤ n := by
  induction n with
  | zero => intro k; exact Nat.le_refl 0
  | succ n ih => intro k; rw [pu_ks_succ, List.length_append]; have := pu_one_len D a (pu_bk k); have := ih (k + 1); omega
theorem q_lst1 (D : Int) (a : Nat) (hD1 : -2000 ≤ D) (hD2 : D ≤ -3) (ha : 0 < a) (ha2 : a ≤ 26) (K : Int32 → Int32 → (Nat → Int64) → (Nat → Int64) → (Nat → Int64) → Option (Int32 × Int32 × Int32 × (Nat → Int64) × (Nat → Int64) × (Nat → Int64))) (j : Nat) :
    ∀ (k N : Nat) (l : List (Int × Int × Int)) (la lb lc : Nat → Int64), k + j = 2 * a + 1 → j < N → hl4 l la lb lc → l.length + j ≤ 10000 →
      ∃ la' lb' lc', f_X4_list_L13 (zi D) (zi a) K N (zi k) (zi l.length) la lb lc = K (zi (a + 1 : Nat)) (zi (l ++ pu_ks D a k j).length) la' lb' lc' ∧ hl4 (l ++ pu_ks D a k j) la' lb' lc' := by
  induction j with
  | zero =>
    intro k N l la lb lc hk hN H hl
    obtain ⟨N, rfl⟩ : ∃ k, N = k + 1 := ⟨N - 1, by omega⟩
    rw [show pu_ks D a k 0 = [] from rfl, List.append_nil]
    refine ⟨la, lb, lc, ?_, H⟩
    rw [lb_eq, zi2, zi1, zi_mul, zi_add, zi_add, if_pos (by rw [zi_le (by omega) (by omega) (by omega) (by omega)]; omega)]
    rfl
  | succ j ih =>
    intro k N l la lb lc hk hN H hl
    obtain ⟨N, rfl⟩ : ∃ k, N = k + 1 := ⟨N - 1, by omega⟩
    obtain ⟨b, hbk⟩ : ∃ b, b = pu_bk k := ⟨_, rfl⟩
    have hb := hbk
    unfold pu_bk at hb
    have hbd : -(a : Int) ≤ b ∧ b ≤ a := by
      rw [hb]; (repeat' split) <;> omega
    obtain ⟨la1, lb1, lc1, q1, H1⟩ := q_body D b a hD1 hD2 ha ha2 hbd.1 hbd.2 K N k (by omega) l la lb lc H (by omega)
    have hlen := pu_one_len D a b
    obtain ⟨la2, lb2, lc2, q2, H2⟩ := ih (k + 1) N (l ++ pu_one D a b) la1 lb1 lc1 (by omega) (by omega) H1 (by rw [List.length_append]; omega)
    rw [pu_ks_succ, ← List.append_assoc, ← hbk]
    refine ⟨la2, lb2, lc2, ?_, H2⟩
    rw [← q2, ← q1]
    rcases q_tm (k : Int) 2 (by omega) with ⟨h, e1, e2⟩ | ⟨h, e1, e3, e2⟩ | ⟨h, e1, e3, e2⟩
    rotate_left
    · omega
    · omega
    rw [lb_eq, zi2, zi1, zi_mul, zi_add, if_neg (by rw [zi_le (by omega) (by omega) (by omega) (by omega)]; omega), zi0, zi_rem (by omega) (by omega) (by omega) (by omega), e1, zi_neg, zi_add, zi_div (by omega) (by omega) (by omega) (by omega), zi_div (by omega) (by omega) (by omega) (by omega)]
    by_cases h0 : k = 0
    · rw [if_pos h0] at hb
      subst h0
      rw [if_pos (show zi ((0 : Nat) : Int) = zi 0 from rfl), hb]
    rw [if_neg h0] at hb
    rw [if_neg (by rw [zi_eq (by omega) (by omega) (by omega) (by omega)]; omega)]
    by_cases h1 : k % 2 = 1
    · rw [if_pos h1] at hb
      rw [if_pos (by congr 1; omega), Int.tdiv_eq_ediv_of_nonneg (by omega)]
      congr 2; omega
    · rw [if_neg h1] at hb
      rw [if_neg (by rw [zi_eq (by omega) (by omega) (by omega) (by omega)]; omega), Int.neg_tdiv, Int.tdiv_eq_ediv_of_nonneg (by omega)]
      congr 2; omega
theorem pu_one_pos (D : Int) (a m : Nat) (hm : 0 < m) (hma : m ≤ a) : pu_one D a m ++ pu_one D a (-(m : Int)) = pu_row D a m := by
  unfold pu_one pu_row
  rw [show -(m : Int) * -(m : Int) = (m : Int) * m by grind, Int.gcd_neg, show Int.gcd (a : Int) (m : Int) = Nat.gcd a m from rfl]
  generalize ((m : Int) * m - D) % (4 * a) = rm
  generalize ((m : Int) * m - D) / (4 * a) = c
  rw [show Int.gcd ((Nat.gcd a m : Nat) : Int) c = Nat.gcd (Nat.gcd a m) c.natAbs from rfl]
  by_cases h : (rm = 0 ∧ (a : Int) ≤ c) ∧ Nat.gcd (Nat.gcd a m) c.natAbs = 1
  · rw [if_pos h, if_pos ⟨h.1.1, ⟨⟨by omega, by omega⟩, h.1.2, by omega⟩, h.2⟩]
    by_cases h2 : m = 0 ∨ m = a ∨ (a : Int) = c
    · rw [if_pos h2, if_neg (by omega)]; rfl
    · rw [if_neg h2, if_pos ⟨h.1.1, ⟨⟨by omega, by omega⟩, h.1.2, by omega⟩, h.2⟩]; rfl
  · rw [if_neg h, if_neg (fun g => h ⟨⟨g.1, g.2.1.2.1⟩, g.2.2⟩), if_neg (fun g => h ⟨⟨g.1, g.2.1.2.1⟩, g.2.2⟩)]; rfl
theorem pu_one_zero (D : Int) (a : Nat) : pu_one D a 0 = pu_row D a 0 := by
  unfold pu_one pu_row
  rw [show (((0 : Nat) : Int) * ((0 : Nat) : Int) - D) = 0 * 0 - D by omega, show Int.gcd (a : Int) 0 = Nat.gcd a 0 from rfl]
  generalize ((0 : Int) * 0 - D) % (4 * a) = rm
  generalize ((0 : Int) * 0 - D) / (4 * a) = c
  rw [show Int.gcd ((Nat.gcd a 0 : Nat) : Int) c = Nat.gcd (Nat.gcd a 0) c.natAbs from rfl]
  by_cases h : (rm = 0 ∧ (a : Int) ≤ c) ∧ Nat.gcd (Nat.gcd a 0) c.natAbs = 1
  · rw [if_pos h, if_pos ⟨h.1.1, ⟨⟨by omega, by omega⟩, h.1.2, by omega⟩, h.2⟩, if_pos (Or.inl rfl)]; rfl
  · rw [if_neg h, if_neg (fun g => h ⟨⟨g.1, g.2.1.2.1⟩, g.2.2⟩)]
theorem pu_ks_ms (D : Int) (a j : Nat) : j ≤ a → pu_ks D a 0 (2 * j + 1) = pu_ms D a 0 (j + 1) := by
  induction j with
  | zero =>
    intro _
    rw [pu_ks_succ, pu_ms_succ, show pu_ks D a (0 + 1) (2 * 0) = [] from rfl, pu_ms_zero, List.append_nil, List.append_nil]
    exact pu_one_zero D a
  | succ j ih =>
    intro h
    have e1 : pu_ks D a 0 (2 * (j + 1) + 1) = pu_ks D a 0 (2 * j + 1) ++ (pu_one D a (j + 1 : Nat) ++ pu_one D a (-((j + 1 : Nat) : Int))) := by
      unfold pu_ks
      rw [show 2 * (j + 1) + 1 = (2 * j + 1) + 2 by omega, ← List.range'_append_1, List.flatMap_append]
      congr 1
      have b1 : pu_bk (0 + (2 * j + 1)) = ((j + 1 : Nat) : Int) := by unfold pu_bk; rw [if_neg (by omega), if_pos (by omega)]; omega
      have b2 : pu_bk (0 + (2 * j + 1) + 1) = -((j + 1 : Nat) : Int) := by unfold pu_bk; rw [if_neg (by omega), if_neg (by omega)]; omega
      rw [List.range'_succ, List.range'_succ, List.flatMap_cons, List.flatMap_cons, b1, b2]
      simp
    have e2 : pu_ms D a 0 (j + 1 + 1) = pu_ms D a 0 (j + 1) ++ pu_row D a (j + 1) := by
      unfold pu_ms
      rw [← List.range'_append_1, List.flatMap_append]
      congr 1
      simp
    rw [e1, e2, ih (by omega), pu_one_pos D a (j + 1) (by omega) h]
theorem pu_ms_len (D : Int) (a : Nat) : (pu_ms D a 0 (a + 1)).length ≤ 2 * a + 1 := by
  rw [← pu_ks_ms D a a (Nat.le_refl a)]; exact pu_ks_len D a _ 0
theorem q_lst2 (D : Int) (hD1 : -2000 ≤ D) (hD2 : D ≤ -3) (j : Nat) :
    ∀ (a N : Nat) (l : List (Int × Int × Int)) (la lb lc : Nat → Int64), 0 < a → a + j = 27 → j < N → hl4 l la lb lc → l.length + 60 * j ≤ 10000 →
      ∃ la' lb' lc', f_X4_list_L4 (zi D) N (zi a) (zi l.length) la lb lc = some (zi (l ++ pu_as D a j).length, zi D, zi (l ++ pu_as D a j).length, la', lb', lc') ∧ hl4 (l ++ pu_as D a j) la' lb' lc' := by
  induction j with
  | zero =>
    intro a N l la lb lc ha hm hN H hl
    obtain ⟨N, rfl⟩ : ∃ k, N = k + 1 := ⟨N - 1, by omega⟩
    obtain rfl : a = 27 := by omega
    rw [pu_as_zero, List.append_nil]
    exact ⟨la, lb, lc, by rw [f_X4_list_L4, zi27, if_pos (by rw [zi_le (by omega) (by omega) (by omega) (by omega)]; omega)], H⟩
  | succ j ih =>
    intro a N l la lb lc ha hm hN H hl
    obtain ⟨N, rfl⟩ : ∃ k, N = k + 1 := ⟨N - 1, by omega⟩
    rw [f_X4_list_L4, zi27, if_neg (by rw [zi_le (by omega) (by omega) (by omega) (by omega)]; omega)]
    obtain ⟨la1, lb1, lc1, q1, H1⟩ := q_lst1 D a hD1 hD2 ha (by omega) (fun o0 o1 o2 o3 o4 => f_X4_list_L4 (zi D) N o0 o1 o2 o3 o4) (2 * a + 1) 0 100000 l la lb lc (by omega) (by omega) H (by omega)
    rw [pu_ks_ms D a a (Nat.le_refl a)] at q1 H1
    have hlen := pu_ms_len D a
    obtain ⟨la2, lb2, lc2, q2, H2⟩ := ih (a + 1) N (l ++ pu_ms D a 0 (a + 1)) la1 lb1 lc1 (by omega) (by omega) (by omega) H1 (by rw [List.length_append]; omega)
    rw [pu_as_succ, ← List.append_assoc]
    exact ⟨la2, lb2, lc2, q1.trans q2, H2⟩
theorem q_lst (D : Int) (hD1 : -2000 ≤ D) (hD2 : D ≤ -3) (la lb lc : Nat → Int64) : ∃ la' lb' lc', f_X4_list la lb lc (zi D) = some (zi (pu_list D).length, zi D, zi (pu_list D).length, la', lb', lc') ∧ hl4 (pu_list D) la' lb' lc' := by
  have h := q_lst2 D hD1 hD2 26 1 100000 [] la lb lc (by omega) (by omega) (by omega) (fun i h => by simp at h) (by simp)
  rw [pu_as_eq, List.nil_append] at h
  exact h
