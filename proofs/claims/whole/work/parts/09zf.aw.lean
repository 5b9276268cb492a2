/-! The reference's search for a value away from n. -/
def sc1 (P : Nat → Nat → Nat → Bool) (far x : Nat) : Nat → Nat → Option (Nat × Nat)
  | 0, _ => none
  | j + 1, y => if P far x y = true then some (x, y) else sc1 P far x j (y + 1)
def sc2 (P : Nat → Nat → Nat → Bool) (far : Nat) : Nat → Nat → Option (Nat × Nat)
  | 0, _ => none
  | j + 1, x => match sc1 P far x (far + 1) 0 with
    | some r => some r
    | none => sc2 P far j (x + 1)
def sc3 (P : Nat → Nat → Nat → Bool) : Nat → Nat → Option (Nat × Nat)
  | 0, _ => none
  | j + 1, far => match sc2 P far (far + 1) 0 with
    | some r => some r
    | none => sc3 P j (far + 1)
def aw (Q : Nat → Nat → Bool) (far x y : Nat) : Bool := decide (x = far ∨ y = far) && (decide (Nat.gcd x y = 1) && Q x y)
def vq (a b c : Int) (x y : Nat) : Int := a * x * x + b * x * y + c * y * y
def aq (a b c : Int) (n : Int) (x y : Nat) : Bool := decide (Int.gcd (vq a b c x y) n = 1)
def om {β : Type} (r : Option (Nat × Nat)) (f : Nat → Nat → β) (z : β) : β := match r with
  | some p => f p.1 p.2
  | none => z
theorem om_some {β : Type} (x y : Nat) (f : Nat → Nat → β) (z : β) : om (some (x, y)) f z = f x y := rfl
theorem om_none {β : Type} (f : Nat → Nat → β) (z : β) : om none f z = z := rfl
def cpl (a b c : Int) (x y : Nat) : Option (Int64 × Int64 × Int64 × Int64 × Int64 × Int64 × Int64) := f_X4_complete (zj a) (zj b) (zj c) 1 0 0 1 (zj (x : Int)) (zj (y : Int))
theorem h_let {α β : Type} (e : α) (k : α → Option β) : dm_let e k = k e := Eq.trans (e_let e k) rfl
theorem h_b1 {a b : Type} (x : a) (k : a → Option b) : dm_b1 (some x) k = k x := Eq.trans (e_b1 x k) rfl
theorem h_b7 {a1 a2 a3 a4 a5 a6 a7 b : Type} (x1 : a1) (x2 : a2) (x3 : a3) (x4 : a4) (x5 : a5) (x6 : a6) (x7 : a7) (k : a1 → a2 → a3 → a4 → a5 → a6 → a7 → Option b) : dm_b7 (some (x1, x2, x3, x4, x5, x6, x7)) k = k x1 x2 x3 x4 x5 x6 x7 := Eq.trans (e_b7 x1 x2 x3 x4 x5 x6 x7 k) rfl
theorem h_beg (p0 p1 p2 : Int64) : f_X4_begin p0 p1 p2 = some (p0, p1, p2, (1 : Int64), (0 : Int64), (0 : Int64), (1 : Int64)) := Eq.trans (Eq.refl (f_X4_begin p0 p1 p2)) rfl
theorem e_b7id {a1 a2 a3 a4 a5 a6 a7 : Type} (o : Option (a1 × a2 × a3 × a4 × a5 × a6 × a7)) : (dm_b7 o fun x1 x2 x3 x4 x5 x6 x7 => some (x1, x2, x3, x4, x5, x6, x7)) = o := by
  cases o <;> rfl
theorem q_vb (a b c : Int) (x y : Nat) (ha : -26 ≤ a) (ha' : a ≤ 26) (hb : -26 ≤ b) (hb' : b ≤ 26) (hc : -700 ≤ c) (hc' : c ≤ 700) (hx : x ≤ 100) (hy : y ≤ 100) : -8000000 ≤ vq a b c x y ∧ vq a b c x y ≤ 8000000 := by
  unfold vq
  obtain ⟨p1, p2⟩ := mulb (show -26 ≤ a by omega) (show a ≤ 26 by omega) (show -100 ≤ (x : Int) by omega) (show (x : Int) ≤ 100 by omega)
  obtain ⟨p3, p4⟩ := mulb (show -2600 ≤ a * x by omega) (show a * x ≤ 2600 by omega) (show -100 ≤ (x : Int) by omega) (show (x : Int) ≤ 100 by omega)
  obtain ⟨p5, p6⟩ := mulb (show -26 ≤ b by omega) (show b ≤ 26 by omega) (show -100 ≤ (x : Int) by omega) (show (x : Int) ≤ 100 by omega)
  obtain ⟨p7, p8⟩ := mulb (show -2600 ≤ b * x by omega) (show b * x ≤ 2600 by omega) (show -100 ≤ (y : Int) by omega) (show (y : Int) ≤ 100 by omega)
  obtain ⟨p9, p10⟩ := mulb (show -700 ≤ c by omega) (show c ≤ 700 by omega) (show -100 ≤ (y : Int) by omega) (show (y : Int) ≤ 100 by omega)
  obtain ⟨p11, p12⟩ := mulb (show -70000 ≤ c * y by omega) (show c * y ≤ 70000 by omega) (show -100 ≤ (y : Int) by omega) (show (y : Int) ≤ 100 by omega)
  omega
theorem q_aw1 (la lb lc : Nat → Int64) (k : Nat) (hk : k < 40) (a b c n : Int) (h1 : la k = zj a) (h2 : lb k = zj b) (h3 : lc k = zj c) (ha : -26 ≤ a) (ha' : a ≤ 26) (hb : -26 ≤ b) (hb' : b ≤ 26) (hc : -700 ≤ c) (hc' : c ≤ 700) (hn : 0 < n) (hn' : n ≤ 500) (far x : Nat) (hf : far < 100) (hx : x ≤ far) (K : Int64 → Option (Int64 × Int64 × Int64 × Int64 × Int64 × Int64 × Int64)) (j : Nat) :
    ∀ (y N : Nat), y + j = far + 1 → j < N → f_X4_away_L26 la lb lc (zi k) (zj n) (zj far) (zj x) K N (zj y) = om (sc1 (aw (aq a b c n)) far x j y) (cpl a b c) (K (zj (x + 1 : Nat))) := by
  induction j with
  | zero =>
    intro y N hy hN
    obtain ⟨N, rfl⟩ : ∃ m, N = m + 1 := ⟨N - 1, by omega⟩
    rw [f_X4_away_L26, if_pos (by rw [zj_lt (by omega) (by omega) (by omega) (by omega)]; omega), e_let, zj1, zj_add, sc1, om_none]
    rfl
  | succ j ih =>
    intro y N hy hN
    obtain ⟨N, rfl⟩ : ∃ m, N = m + 1 := ⟨N - 1, by omega⟩
    have hni : (zi (k : Int)).toNatClampNeg = k := by rw [zi_nat (by omega) (by omega)]; omega
    have hg : ¬ (zi (k : Int) < 0 ∨ 40 ≤ (zi (k : Int)).toNatClampNeg) := by rw [zi0, zi_lt (by omega) (by omega) (by omega) (by omega), hni]; omega
    have hg' : ¬ (zi (k : Int) < 0 ∨ 40 ≤ k) := by rw [hni] at hg; exact hg
    have hgc : Nat.gcd x y ≤ 100 := by
      by_cases h0 : x = 0
      · subst h0; rw [Nat.gcd_zero_left]; omega
      · have := Nat.le_of_dvd (by omega) (Nat.gcd_dvd_left x y); omega
    have hcom : f_X4_common (zj x) (zj y) = some (zj (Nat.gcd x y : Nat)) := q_com x y (by omega) (by omega)
    obtain ⟨vb1, vb2⟩ := q_vb a b c x y ha ha' hb hb' hc hc' (by omega) (by omega)
    have hcv : f_X4_common (zj (vq a b c x y)) (zj n) = some (zj (Int.gcd (vq a b c x y) n : Nat)) := q_com _ n (by omega) (by omega)
    have hgn : Int.gcd (vq a b c x y) n ≤ 500 := by
      have := Nat.le_of_dvd (show 0 < n.natAbs by omega) (Int.gcd_dvd_natAbs_right (vq a b c x y) n)
      omega
    have hval : zj a * zj (x : Int) * zj (x : Int) + zj b * zj (x : Int) * zj (y : Int) + zj c * zj (y : Int) * zj (y : Int) = zj (vq a b c x y) := by
      simp only [zj_mul, zj_add]; rfl
    have hy1 : zj (y : Int) + 1 = zj (y + 1 : Nat) := by rw [zj1, zj_add]; rfl
    have hnext := ih (y + 1) N (by omega) (by omega)
    rw [f_X4_away_L26, if_neg (by rw [zj_lt (by omega) (by omega) (by omega) (by omega)]; omega)]
    simp only [e_g hg', hni, h1, h2, h3, hcom, h_b1, hval, hcv, h_let, h_beg, h_b7, e_b7id, hy1, hnext]
    rw [show f_X4_complete (zj a) (zj b) (zj c) 1 0 0 1 (zj (x : Int)) (zj (y : Int)) = cpl a b c x y from rfl]
    have c1 : (zj (x : Int) = zj far) ↔ x = far := by rw [zj_eq (by omega) (by omega) (by omega) (by omega)]; omega
    have c2 : (zj (y : Int) = zj far) ↔ y = far := by rw [zj_eq (by omega) (by omega) (by omega) (by omega)]; omega
    have c3 : (zj (Nat.gcd x y : Nat) = 1) ↔ Nat.gcd x y = 1 := by rw [zj1, zj_eq (by omega) (by omega) (by omega) (by omega)]; omega
    have c4 : (zj (Int.gcd (vq a b c x y) n : Nat) = 1) ↔ Int.gcd (vq a b c x y) n = 1 := by rw [zj1, zj_eq (by omega) (by omega) (by omega) (by omega)]; omega
    simp only [c1, c2, c3, c4]
    have hP : aw (aq a b c n) far x y = true ↔ ((x = far ∨ y = far) ∧ Nat.gcd x y = 1 ∧ Int.gcd (vq a b c x y) n = 1) := by unfold aw aq; simp
    rw [sc1]
    by_cases hp : (x = far ∨ y = far) ∧ Nat.gcd x y = 1 ∧ Int.gcd (vq a b c x y) n = 1
    · rw [if_pos (hP.mpr hp), om_some]
      by_cases d1 : x = far
      · rw [if_pos d1, if_pos hp.2.1, if_pos hp.2.2]
      · rw [if_neg d1, if_pos (by omega), if_pos hp.2.1, if_pos hp.2.2]
    · rw [if_neg (fun h => hp (hP.mp h))]
      by_cases d1 : x = far
      · rw [if_pos d1]
        by_cases d3 : Nat.gcd x y = 1
        · rw [if_pos d3, if_neg (fun d4 => hp ⟨Or.inl d1, d3, d4⟩)]
        · rw [if_neg d3]
      · rw [if_neg d1]
        by_cases d2 : y = far
        · rw [if_pos d2]
          by_cases d3 : Nat.gcd x y = 1
          · rw [if_pos d3, if_neg (fun d4 => hp ⟨Or.inr d2, d3, d4⟩)]
          · rw [if_neg d3]
        · rw [if_neg d2]
theorem q_aw2 (la lb lc : Nat → Int64) (k : Nat) (hk : k < 40) (a b c n : Int) (h1 : la k = zj a) (h2 : lb k = zj b) (h3 : lc k = zj c) (ha : -26 ≤ a) (ha' : a ≤ 26) (hb : -26 ≤ b) (hb' : b ≤ 26) (hc : -700 ≤ c) (hc' : c ≤ 700) (hn : 0 < n) (hn' : n ≤ 500) (far : Nat) (hf : far < 100) (K : Int64 → Option (Int64 × Int64 × Int64 × Int64 × Int64 × Int64 × Int64)) (j : Nat) :
    ∀ (x N : Nat), x + j = far + 1 → j < N → f_X4_away_L15 la lb lc (zi k) (zj n) (zj far) K N (zj x) = om (sc2 (aw (aq a b c n)) far j x) (cpl a b c) (K (zj (far + 1 : Nat))) := by
  induction j with
  | zero =>
    intro x N hy hN
    obtain ⟨N, rfl⟩ : ∃ m, N = m + 1 := ⟨N - 1, by omega⟩
    rw [f_X4_away_L15, if_pos (by rw [zj_lt (by omega) (by omega) (by omega) (by omega)]; omega), e_let, zj1, zj_add, sc2, om_none]
    rfl
  | succ j ih =>
    intro x N hy hN
    obtain ⟨N, rfl⟩ : ∃ m, N = m + 1 := ⟨N - 1, by omega⟩
    rw [f_X4_away_L15, if_neg (by rw [zj_lt (by omega) (by omega) (by omega) (by omega)]; omega)]
    have h := q_aw1 la lb lc k hk a b c n h1 h2 h3 ha ha' hb hb' hc hc' hn hn' far x hf (by omega) (fun o0 => f_X4_away_L15 la lb lc (zi k) (zj n) (zj far) K N o0) (far + 1) 0 100000 (by omega) (by omega)
    rw [show (0 : Int64) = zj ((0 : Nat) : Int) from rfl, h, sc2]
    cases hs : sc1 (aw (aq a b c n)) far x (far + 1) 0 with
    | some r => obtain ⟨r1, r2⟩ := r; rw [om_some, om_some]
    | none => rw [om_none]; exact ih (x + 1) N (by omega) (by omega)
theorem q_aw3 (la lb lc : Nat → Int64) (ta tb tc tp tq tr ts : Int64) (k : Nat) (hk : k < 40) (a b c n : Int) (h1 : la k = zj a) (h2 : lb k = zj b) (h3 : lc k = zj c) (ha : -26 ≤ a) (ha' : a ≤ 26) (hb : -26 ≤ b) (hb' : b ≤ 26) (hc : -700 ≤ c) (hc' : c ≤ 700) (hn : 0 < n) (hn' : n ≤ 500) (j : Nat) :
    ∀ (far N : Nat), far + j = 100 → j < N → f_X4_away_L3 la lb lc ta tb tc tp tq tr ts (zi k) (zj n) N (zj far) = om (sc3 (aw (aq a b c n)) j far) (cpl a b c) (some (ta, tb, tc, tp, tq, tr, ts)) := by
  induction j with
  | zero =>
    intro far N hy hN
    obtain ⟨N, rfl⟩ : ∃ m, N = m + 1 := ⟨N - 1, by omega⟩
    rw [f_X4_away_L3, zj100, if_pos (by rw [zj_le (by omega) (by omega) (by omega) (by omega)]; omega), sc3, om_none]
  | succ j ih =>
    intro far N hy hN
    obtain ⟨N, rfl⟩ : ∃ m, N = m + 1 := ⟨N - 1, by omega⟩
    rw [f_X4_away_L3, zj100, if_neg (by rw [zj_le (by omega) (by omega) (by omega) (by omega)]; omega)]
    have h := q_aw2 la lb lc k hk a b c n h1 h2 h3 ha ha' hb hb' hc hc' hn hn' far (by omega) (fun o0 => f_X4_away_L3 la lb lc ta tb tc tp tq tr ts (zi k) (zj n) N o0) (far + 1) 0 100000 (by omega) (by omega)
    rw [show (0 : Int64) = zj ((0 : Nat) : Int) from rfl, h, sc3]
    cases hs : sc2 (aw (aq a b c n)) far (far + 1) 0 with
    | some r => obtain ⟨r1, r2⟩ := r; rw [om_some, om_some]
    | none => rw [om_none]; exact ih (far + 1) N (by omega) (by omega)
/-- a matrix of determinant 1 that begins with (x, y) -/
theorem q_bez (n : Nat) : ∀ x y : Nat, y ≤ n → Nat.gcd x y = 1 → ∃ w u : Int, (x : Int) * w - u * y = 1 := by
  induction n with
  | zero =>
    intro x y hy h
    obtain rfl : y = 0 := by omega
    rw [Nat.gcd_zero_right] at h
    subst h
    exact ⟨1, 0, by omega⟩
  | succ n ih =>
    intro x y hy h
    by_cases h0 : y = 0
    · subst h0
      rw [Nat.gcd_zero_right] at h
      subst h
      exact ⟨1, 0, by omega⟩
    have hm := Nat.mod_lt x (show 0 < y by omega)
    obtain ⟨w, u, e⟩ := ih y (x % y) (by omega) (by rw [← h, Nat.gcd_comm x y, Nat.gcd_rec y x, Nat.gcd_comm])
    have hd := Nat.div_add_mod x y
    refine ⟨-u, -(w + u * (x / y : Nat)), ?_⟩
    have hx : (x : Int) = y * (x / y : Nat) + (x % y : Nat) := by rw [← Int.natCast_mul, ← Int.natCast_add, hd]
    generalize ((x / y : Nat) : Int) = q at *
    generalize ((x % y : Nat) : Int) = r at *
    rw [hx]
    grind
theorem q_cmpL (A B C P Q R S : Int64) (x y : Nat) (hx : x ≤ 100) (hy : y ≤ 100) (w0 : Int) (hw0 : w0 ≤ 101) (hgood : ∃ u, (x : Int) * w0 - u * y = 1) (j : Nat) :
    ∀ (w : Int) (N : Nat), -101 ≤ w → w + j = w0 → j < N → ∃ w' u' : Int, (x : Int) * w' - u' * y = 1 ∧ -101 ≤ w' ∧ w' ≤ 101 ∧ -20000 ≤ u' ∧ u' ≤ 20000 ∧ f_X4_complete_L5 A B C P Q R S (zj x) (zj y) N (zj w) = f_X4_apply A B C P Q R S (zj x) (zj u') (zj y) (zj w') := by
  have stop : ∀ (w : Int) (N : Nat), -101 ≤ w → w ≤ 101 → (∃ u, (x : Int) * w - u * y = 1) → ∃ w' u' : Int, (x : Int) * w' - u' * y = 1 ∧ -101 ≤ w' ∧ w' ≤ 101 ∧ -20000 ≤ u' ∧ u' ≤ 20000 ∧ f_X4_complete_L5 A B C P Q R S (zj x) (zj y) (N + 1) (zj w) = f_X4_apply A B C P Q R S (zj x) (zj u') (zj y) (zj w') := by
    intro w N h1 h2 ⟨u, hu⟩
    obtain ⟨p1, p2⟩ := mulb (show -100 ≤ (x : Int) by omega) (show (x : Int) ≤ 100 by omega) (show -101 ≤ w by omega) (show w ≤ 101 by omega)
    rw [f_X4_complete_L5, zj101, if_neg (by rw [zj_lt (by omega) (by omega) (by omega) (by omega)]; omega)]
    by_cases h0 : y = 0
    · subst h0
      refine ⟨w, 0, by omega, h1, h2, by omega, by omega, ?_⟩
      have hxw : (x : Int) * w = 1 := by omega
      rw [if_pos (show zj ((0 : Nat) : Int) = 0 from rfl), zj_mul, hxw, if_pos (show zj 1 = 1 from rfl), if_neg (show ¬ (1 : Int32) = 0 by decide), if_pos (show zj ((0 : Nat) : Int) = 0 from rfl), e_b7id]
      rfl
    · have hy0 : ¬ zj (y : Int) = 0 := by rw [show (0 : Int64) = zj 0 from rfl, zj_eq (by omega) (by omega) (by omega) (by omega)]; omega
      have e1 : (x : Int) * w - 1 = y * u := by rw [Int.mul_comm (y : Int) u]; omega
      have hub : -20000 ≤ u ∧ u ≤ 20000 := by
        have q1 : (y : Int) * u ≤ y * 20000 := by omega
        have q2 : (y : Int) * (-20000) ≤ y * u := by omega
        exact ⟨Int.le_of_mul_le_mul_left q2 (by omega), Int.le_of_mul_le_mul_left q1 (by omega)⟩
      refine ⟨w, u, hu, h1, h2, hub.1, hub.2, ?_⟩
      rw [if_neg hy0, e_g hy0, zj_mul, zj1, zj_sub, zj_rem (by omega) (by omega) (by omega) (by omega), zj_div (by omega) (by omega) (by omega) (by omega), e1, Int.mul_tdiv_cancel_left u (by omega), show ((y : Int) * u).tmod y = 0 by rw [tm0]; exact Int.mul_emod_right _ _, if_pos (show zj 0 = 0 from rfl), if_neg (show ¬ (1 : Int32) = 0 by decide), if_neg hy0, e_g hy0, e_b7id]
  induction j with
  | zero =>
    intro w N h1 h2 hN
    obtain ⟨N, rfl⟩ : ∃ m, N = m + 1 := ⟨N - 1, by omega⟩
    obtain rfl : w = w0 := by omega
    exact stop w N h1 hw0 hgood
  | succ j ih =>
    intro w N h1 h2 hN
    obtain ⟨N, rfl⟩ : ∃ m, N = m + 1 := ⟨N - 1, by omega⟩
    by_cases hg : ∃ u, (x : Int) * w - u * y = 1
    · exact stop w N h1 (by omega) hg
    · obtain ⟨p1, p2⟩ := mulb (show -100 ≤ (x : Int) by omega) (show (x : Int) ≤ 100 by omega) (show -101 ≤ w by omega) (show w ≤ 101 by omega)
      obtain ⟨w', u', r1, r2, r3, r4, r5, r6⟩ := ih (w + 1) N (by omega) (by omega) (by omega)
      refine ⟨w', u', r1, r2, r3, r4, r5, ?_⟩
      rw [← r6, f_X4_complete_L5, zj101, if_neg (by rw [zj_lt (by omega) (by omega) (by omega) (by omega)]; omega)]
      by_cases h0 : y = 0
      · subst h0
        rw [if_pos (show zj ((0 : Nat) : Int) = 0 from rfl), zj_mul, zj1, if_neg (by rw [zj_eq (by omega) (by omega) (by omega) (by omega)]; exact fun h => hg ⟨0, by omega⟩), if_pos (show (0 : Int32) = 0 from rfl), e_let, zj_add]
      · have hy0 : ¬ zj (y : Int) = 0 := by rw [show (0 : Int64) = zj 0 from rfl, zj_eq (by omega) (by omega) (by omega) (by omega)]; omega
        have g1 := Int.emod_nonneg ((x : Int) * w - 1) (show (y : Int) ≠ 0 by omega)
        have g2 := Int.emod_lt_of_pos ((x : Int) * w - 1) (show 0 < (y : Int) by omega)
        have g3 : -1000 ≤ ((x : Int) * w - 1).tmod y ∧ ((x : Int) * w - 1).tmod y ≤ 1000 := by
          rcases q_tm ((x : Int) * w - 1) y (by omega) with ⟨h, e1, e2⟩ | ⟨h, e1, e3, e2⟩ | ⟨h, e1, e3, e2⟩ <;> omega
        rw [if_neg hy0, e_g hy0, zj_mul, zj1, zj_sub, zj_rem (by omega) (by omega) (by omega) (by omega), show (0 : Int64) = zj 0 from rfl, if_neg (by
          rw [zj_eq (by omega) (by omega) (by omega) (by omega), tm0]
          intro h
          obtain ⟨u, hu⟩ := Int.dvd_of_emod_eq_zero h
          exact hg ⟨u, by rw [Int.mul_comm u]; omega⟩), if_pos (show (0 : Int32) = 0 from rfl), e_let, zj_add]
theorem q_cmp (A B C P Q R S : Int64) (x y : Nat) (hx : x ≤ 100) (hy : y ≤ 100) (hg : Nat.gcd x y = 1) : ∃ w' u' : Int, (x : Int) * w' - u' * y = 1 ∧ -101 ≤ w' ∧ w' ≤ 101 ∧ -20000 ≤ u' ∧ u' ≤ 20000 ∧ f_X4_complete A B C P Q R S (zj x) (zj y) = f_X4_apply A B C P Q R S (zj x) (zj u') (zj y) (zj w') := by
  obtain ⟨w, u, e⟩ := q_bez y x y (Nat.le_refl y) hg
  by_cases h0 : y = 0
  · have hx1 : x = 1 := by rw [h0, Nat.gcd_zero_right] at hg; exact hg
    refine q_cmpL A B C P Q R S x y hx hy 1 (by omega) ⟨0, ?_⟩ 102 (-101) 100000 (by omega) (by omega) (by omega)
    rw [hx1, h0]; rfl
  · have g1 := Int.emod_nonneg w (show (y : Int) ≠ 0 by omega)
    have g2 := Int.emod_lt_of_pos w (show 0 < (y : Int) by omega)
    have g3 := Int.mul_ediv_add_emod w y
    refine q_cmpL A B C P Q R S x y hx hy (w % y) (by omega) ⟨u - x * (w / y), ?_⟩ (w % y + 101).toNat (-101) 100000 (by omega) (by omega) (by omega)
    generalize w / (y : Int) = q at *
    generalize w % (y : Int) = r at *
    rw [← g3] at e
    grind
/-- the search's answer -/
theorem sc1_some (P : Nat → Nat → Nat → Bool) (far x : Nat) (j : Nat) : ∀ (y : Nat) (r : Nat × Nat), sc1 P far x j y = some r → r.1 = x ∧ y ≤ r.2 ∧ r.2 < y + j ∧ P far r.1 r.2 = true := by
  induction j with
  | zero => intro y r h; cases h
  | succ j ih =>
    intro y r h
    rw [sc1] at h
    by_cases hp : P far x y = true
    · rw [if_pos hp] at h
      cases h
      exact ⟨rfl, Nat.le_refl _, by omega, hp⟩
    · rw [if_neg hp] at h
      obtain ⟨h1, h2, h3, h4⟩ := ih (y + 1) r h
      exact ⟨h1, by omega, by omega, h4⟩
theorem sc1_none (P : Nat → Nat → Nat → Bool) (far x : Nat) (j : Nat) : ∀ (y : Nat), sc1 P far x j y = none → ∀ y', y ≤ y' → y' < y + j → P far x y' = false := by
  induction j with
  | zero => intro y _ y' h1 h2; omega
  | succ j ih =>
    intro y h y' h1 h2
    rw [sc1] at h
    by_cases hp : P far x y = true
    · rw [if_pos hp] at h; cases h
    · rw [if_neg hp] at h
      rcases Nat.lt_or_ge y y' with g | g
      · exact ih (y + 1) h y' g (by omega)
      · obtain rfl : y' = y := by omega
        exact Bool.eq_false_iff.mpr hp
theorem sc2_some (P : Nat → Nat → Nat → Bool) (far : Nat) (j : Nat) : ∀ (x : Nat) (r : Nat × Nat), sc2 P far j x = some r → x ≤ r.1 ∧ r.1 < x + j ∧ r.2 ≤ far ∧ P far r.1 r.2 = true := by
  induction j with
  | zero => intro y r h; cases h
  | succ j ih =>
    intro x r h
    rw [sc2] at h
    cases hs : sc1 P far x (far + 1) 0 with
    | some q =>
      rw [hs] at h
      cases h
      obtain ⟨h1, h2, h3, h4⟩ := sc1_some P far x _ _ _ hs
      exact ⟨by omega, by omega, by omega, h4⟩
    | none =>
      rw [hs] at h
      obtain ⟨h1, h2, h3, h4⟩ := ih (x + 1) r h
      exact ⟨by omega, by omega, h3, h4⟩
theorem sc2_none (P : Nat → Nat → Nat → Bool) (far : Nat) (j : Nat) : ∀ (x : Nat), sc2 P far j x = none → ∀ x' y', x ≤ x' → x' < x + j → y' ≤ far → P far x' y' = false := by
  induction j with
  | zero => intro y _ y' _ h1 h2; omega
  | succ j ih =>
    intro x h x' y' h1 h2 h3
    rw [sc2] at h
    cases hs : sc1 P far x (far + 1) 0 with
    | some q => rw [hs] at h; cases h
    | none =>
      rw [hs] at h
      rcases Nat.lt_or_ge x x' with g | g
      · exact ih (x + 1) h x' y' g (by omega) h3
      · obtain rfl : x' = x := by omega
        exact sc1_none P far x' _ _ hs y' (by omega) (by omega)
theorem sc3_some (P : Nat → Nat → Nat → Bool) (j : Nat) : ∀ (far : Nat) (r : Nat × Nat), sc3 P j far = some r → ∃ f, far ≤ f ∧ f < far + j ∧ r.1 ≤ f ∧ r.2 ≤ f ∧ P f r.1 r.2 = true := by
  induction j with
  | zero => intro y r h; cases h
  | succ j ih =>
    intro far r h
    rw [sc3] at h
    cases hs : sc2 P far (far + 1) 0 with
    | some q =>
      rw [hs] at h
      cases h
      obtain ⟨h1, h2, h3, h4⟩ := sc2_some P far _ _ _ hs
      exact ⟨far, by omega, by omega, by omega, by omega, h4⟩
    | none =>
      rw [hs] at h
      obtain ⟨f, h1, h2, h3, h4, h5⟩ := ih (far + 1) r h
      exact ⟨f, by omega, by omega, h3, h4, h5⟩
theorem sc3_none (P : Nat → Nat → Nat → Bool) (j : Nat) : ∀ (far : Nat), sc3 P j far = none → ∀ f x y, far ≤ f → f < far + j → x ≤ f → y ≤ f → P f x y = false := by
  induction j with
  | zero => intro y _ f x y h1 h2; omega
  | succ j ih =>
    intro far h f x y h1 h2 h3 h4
    rw [sc3] at h
    cases hs : sc2 P far (far + 1) 0 with
    | some q => rw [hs] at h; cases h
    | none =>
      rw [hs] at h
      rcases Nat.lt_or_ge far f with g | g
      · exact ih (far + 1) h f x y g (by omega) h3 h4
      · obtain rfl : f = far := by omega
        exact sc2_none P f _ _ hs x y (by omega) (by omega) h4
