/-! The word. -/
theorem g_pos (D : Int) (hD : pu_ok D) : 0 < (pu_list D).length := by
  have hD' := hD
  unfold pu_ok at hD'
  have key : ∀ m : Nat, m ≤ 1 → ((m : Int) * m - D) % (4 * ((1 : Nat) : Int)) = 0 → (1 : Int) ≤ ((m : Int) * m - D) / (4 * ((1 : Nat) : Int)) → ((1 : Int), (m : Int), ((m : Int) * m - D) / (4 * ((1 : Nat) : Int))) ∈ pu_list D := by
    intro m hm h1 h2
    unfold pu_list
    refine List.mem_flatMap.mpr ⟨0, List.mem_range.mpr (by omega), List.mem_flatMap.mpr ⟨m, List.mem_range.mpr (by omega), ?_⟩⟩
    unfold pu_row
    rw [if_pos ⟨⟨h1, h2⟩, by rw [show (0 + 1) = 1 from rfl, Nat.gcd_one_left, Nat.gcd_one_left]⟩]
    exact List.mem_cons_self
  rcases hD'.2.2 with h | h
  · exact List.length_pos_of_mem (key 0 (by omega) (by show ((0 : Int) * 0 - D) % 4 = 0; omega) (by show (1 : Int) ≤ ((0 : Int) * 0 - D) / 4; omega))
  · exact List.length_pos_of_mem (key 1 (by omega) (by show ((1 : Int) * 1 - D) % 4 = 0; omega) (by show (1 : Int) ≤ ((1 : Int) * 1 - D) / 4; omega))
theorem w_pow (k : Nat) (hk : k ≤ 255) : f_X2_isPower (zi k) = some (if 50 ≤ k ∧ k ≤ 57 then 1 else 0) ∧ f_X4_isDigit (zi k) = some (if 50 ≤ k ∧ k ≤ 57 then 1 else 0) := by
  have e : ∀ b : Fin 256, f_X2_isPower (zi (b.val : Int)) = some (if 50 ≤ b.val ∧ b.val ≤ 57 then 1 else 0) ∧ f_X4_isDigit (zi (b.val : Int)) = some (if 50 ≤ b.val ∧ b.val ≤ 57 then 1 else 0) := by decide +kernel
  exact e ⟨k, by omega⟩
theorem w_let (k : Nat) (hk : k ≤ 255) : f_X2_isLetter (zi k) = some (if (65 ≤ k ∧ k ≤ 90) ∨ (97 ≤ k ∧ k ≤ 122) then 1 else 0) ∧ f_X2_isCapital (zi k) = some (if 65 ≤ k ∧ k ≤ 90 then 1 else 0) := by
  have e : ∀ b : Fin 256, f_X2_isLetter (zi (b.val : Int)) = some (if (65 ≤ b.val ∧ b.val ≤ 90) ∨ (97 ≤ b.val ∧ b.val ≤ 122) then 1 else 0) ∧ f_X2_isCapital (zi (b.val : Int)) = some (if 65 ≤ b.val ∧ b.val ≤ 90 then 1 else 0) := by decide +kernel
  exact e ⟨k, by omega⟩
theorem w_num (k : Nat) (hk : k ≤ 255) : f_X2_numberOf (zi k) = some (if 65 ≤ k ∧ k ≤ 90 then zi ((k : Int) - 65) else zi ((k : Int) - 97)) := by
  rw [f_X2_numberOf, (w_let k hk).2, h_b1, zi97, zi65, zi_sub, zi_sub]
  by_cases h : 65 ≤ k ∧ k ≤ 90
  · rw [if_pos h, if_pos h, if_neg (show ¬ (1 : Int32) = 0 by decide)]
  · rw [if_neg h, if_neg h, if_pos rfl]
theorem w_ix {n i : Nat} (hi : i < n) (hn : n ≤ 40) : (zi (i : Int)).toNatClampNeg = i ∧ ¬ (zi (i : Int) < 0 ∨ 40 ≤ (zi (i : Int)).toNatClampNeg) ∧ ¬ zi (n : Int) ≤ zi (i : Int) := by
  have h : (zi (i : Int)).toNatClampNeg = i := by rw [zi_nat (by omega) (by omega)]; omega
  refine ⟨h, ?_, ?_⟩
  · rw [zi0, zi_lt (by omega) (by omega) (by omega) (by omega), h]; omega
  · rw [zi_le (by omega) (by omega) (by omega) (by omega)]; omega
theorem w_ix5 {d : Nat} (hd : d ≤ 4) : (zi (d : Int)).toNatClampNeg = d ∧ ¬ (zi (d : Int) < 0 ∨ 5 ≤ (zi (d : Int)).toNatClampNeg) := by
  have h : (zi (d : Int)).toNatClampNeg = d := by rw [zi_nat (by omega) (by omega)]; omega
  refine ⟨h, ?_⟩
  rw [zi0, zi_lt (by omega) (by omega) (by omega) (by omega), h]; omega
theorem w_s (i : Nat) : zi (i : Int) + 1 = zi (i + 1 : Nat) := by rw [zi1, zi_add]; rfl
theorem w_p (i : Nat) (h : 0 < i) : zi (i : Int) + (-1) = zi (i - 1 : Nat) := by rw [zim1, zi_add]; congr 1; omega
/-- one letter, well formed -/
theorem wf_open (row : Nat → Int32) (n i d N : Nat) (r : Int32) (hi : i < n) (hn : n ≤ 40) (hd : d ≤ 4) (hrow : row i = zi ((40 : Nat) : Int)) : f_X2_isWellFormed_L6 row (zi n) (N + 1) (zi i) r (zi d) = if d = 4 then some 0 else f_X2_isWellFormed_L6 row (zi n) N (zi (i + 1 : Nat)) 0 (zi (d + 1 : Nat)) := by
  obtain ⟨x1, x2, x3⟩ := w_ix hi hn
  rw [f_X2_isWellFormed_L6, if_neg x3, e_g x2, x1, h_let, hrow, if_pos (show zi ((40 : Nat) : Int) = 40 from rfl), h_let, w_s, (w_pow 40 (by omega)).1, h_b1, w_s, if_neg (show ¬ zi ((d + 1 : Nat) : Int) < 0 by rw [zi0, zi_lt (by omega) (by omega) (by omega) (by omega)]; omega)]
  by_cases h : d = 4
  · rw [if_pos h, if_pos (by rw [zi4, zi_lt (by omega) (by omega) (by omega) (by omega)]; omega)]
  · rw [if_neg h, if_neg (by rw [zi4, zi_lt (by omega) (by omega) (by omega) (by omega)]; omega), if_pos (by decide), if_pos (show zi ((40 : Nat) : Int) = 40 from rfl), h_let]
theorem wf_close (row : Nat → Int32) (n i d N : Nat) (r : Int32) (hi : i < n) (hn : n ≤ 40) (hd : d ≤ 4) (hrow : row i = zi ((41 : Nat) : Int)) : f_X2_isWellFormed_L6 row (zi n) (N + 1) (zi i) r (zi d) = if d = 0 then some 0 else f_X2_isWellFormed_L6 row (zi n) N (zi (i + 1 : Nat)) 1 (zi (d - 1 : Nat)) := by
  obtain ⟨x1, x2, x3⟩ := w_ix hi hn
  rw [f_X2_isWellFormed_L6, if_neg x3, e_g x2, x1, h_let, hrow, if_neg (show ¬ zi ((41 : Nat) : Int) = 40 by decide), if_pos (show zi ((41 : Nat) : Int) = 41 from rfl), h_let, (w_pow 41 (by omega)).1]
  by_cases h : d = 0
  · subst h
    rw [if_pos rfl, if_pos (show zi ((0 : Nat) : Int) + (-1) < 0 by decide)]
  · rw [if_neg h, w_p d (by omega), if_neg (by rw [zi0, zi_lt (by omega) (by omega) (by omega) (by omega)]; omega), if_neg (by rw [zi4, zi_lt (by omega) (by omega) (by omega) (by omega)]; omega), h_b1, if_pos (by decide), if_neg (show ¬ zi ((41 : Nat) : Int) = 40 by decide), h_b1, if_pos (by decide), h_let, w_s]
theorem wf_dig (row : Nat → Int32) (n i d k N : Nat) (r : Int32) (hi : i < n) (hn : n ≤ 40) (hd : d ≤ 4) (hrow : row i = zi k) (hk : 50 ≤ k ∧ k ≤ 57) : f_X2_isWellFormed_L6 row (zi n) (N + 1) (zi i) r (zi d) = if r = 0 then some 0 else f_X2_isWellFormed_L6 row (zi n) N (zi (i + 1 : Nat)) 0 (zi d) := by
  obtain ⟨x1, x2, x3⟩ := w_ix hi hn
  rw [f_X2_isWellFormed_L6, if_neg x3, e_g x2, x1, h_let, hrow, if_neg (show ¬ zi (k : Int) = 40 by rw [zi40, zi_eq (by omega) (by omega) (by omega) (by omega)]; omega), if_neg (show ¬ zi (k : Int) = 41 by rw [zi41, zi_eq (by omega) (by omega) (by omega) (by omega)]; omega), if_neg (show ¬ zi (d : Int) < 0 by rw [zi0, zi_lt (by omega) (by omega) (by omega) (by omega)]; omega), if_neg (show ¬ 4 < zi (d : Int) by rw [zi4, zi_lt (by omega) (by omega) (by omega) (by omega)]; omega), (w_pow k (by omega)).1, if_pos hk, h_b1, if_neg (show ¬ (1 : Int32) = 0 by decide)]
  by_cases h : r = 0
  · rw [if_pos h, if_pos h]
  · rw [if_neg h, if_neg h, if_neg (show ¬ zi (k : Int) = 40 by rw [zi40, zi_eq (by omega) (by omega) (by omega) (by omega)]; omega), h_b1, if_neg (show ¬ (1 : Int32) = 0 by decide), h_let, w_s]
theorem wf_let (row : Nat → Int32) (n i d k N : Nat) (r : Int32) (hi : i < n) (hn : n ≤ 40) (hd : d ≤ 4) (hrow : row i = zi k) (hk : 65 ≤ k ∧ k ≤ 122) : f_X2_isWellFormed_L6 row (zi n) (N + 1) (zi i) r (zi d) = f_X2_isWellFormed_L6 row (zi n) N (zi (i + 1 : Nat)) 1 (zi d) := by
  obtain ⟨x1, x2, x3⟩ := w_ix hi hn
  have n40 : ¬ zi (k : Int) = 40 := by rw [zi40, zi_eq (by omega) (by omega) (by omega) (by omega)]; omega
  rw [f_X2_isWellFormed_L6, if_neg x3, e_g x2, x1, h_let, hrow, if_neg n40, if_neg (show ¬ zi (k : Int) = 41 by rw [zi41, zi_eq (by omega) (by omega) (by omega) (by omega)]; omega), if_neg (show ¬ zi (d : Int) < 0 by rw [zi0, zi_lt (by omega) (by omega) (by omega) (by omega)]; omega), if_neg (show ¬ 4 < zi (d : Int) by rw [zi4, zi_lt (by omega) (by omega) (by omega) (by omega)]; omega), (w_pow k (by omega)).1, if_neg (show ¬ (50 ≤ k ∧ k ≤ 57) by omega), h_b1, if_pos rfl, if_neg n40, h_b1, if_pos rfl, h_let, w_s]
/-- one letter, within -/
theorem wn_not (row : Nat → Int32) (n i k h N : Nat) (hi : i < n) (hn : n ≤ 40) (hrow : row i = zi k) (hk : k < 65) : f_X2_isWithin_L2 row (zi n) (zi h) (N + 1) (zi i) = f_X2_isWithin_L2 row (zi n) (zi h) N (zi (i + 1 : Nat)) := by
  obtain ⟨x1, x2, x3⟩ := w_ix hi hn
  rw [f_X2_isWithin_L2, if_neg x3, e_g x2, x1, hrow, (w_let k (by omega)).1, if_neg (by omega), h_b1, if_pos rfl, h_let, w_s]
theorem wn_let (row : Nat → Int32) (n i k m h N : Nat) (hi : i < n) (hn : n ≤ 40) (hrow : row i = zi k) (hk : (65 ≤ k ∧ k ≤ 90 ∧ m = k - 65) ∨ (97 ≤ k ∧ k ≤ 122 ∧ m = k - 97)) (hh : h ≤ 40) : f_X2_isWithin_L2 row (zi n) (zi h) (N + 1) (zi i) = if m < h then f_X2_isWithin_L2 row (zi n) (zi h) N (zi (i + 1 : Nat)) else some 0 := by
  obtain ⟨x1, x2, x3⟩ := w_ix hi hn
  have hm : f_X2_numberOf (zi k) = some (zi m) := by
    rw [w_num k (by omega)]
    rcases hk with ⟨h1, h2, h3⟩ | ⟨h1, h2, h3⟩
    · rw [if_pos ⟨h1, h2⟩]; congr 2; omega
    · rw [if_neg (by omega)]; congr 2; omega
  rw [f_X2_isWithin_L2, if_neg x3, e_g x2, x1, hrow, (w_let k (by omega)).1, if_pos (by omega), h_b1, if_neg (show ¬ (1 : Int32) = 0 by decide), e_g (by rw [x1] at x2; exact x2), hm, h_b1]
  by_cases hmh : m < h
  · rw [((q_has h m (by omega) (by omega) (by omega) (by omega)).1 (by omega)).1, h_b1, if_neg (show ¬ (1 : Int32) = 0 by decide), if_pos hmh, h_let, w_s]
  · rw [((q_has h m (by omega) (by omega) (by omega) (by omega)).2 (by omega)).1, h_b1, if_pos rfl, if_neg hmh]
/-- the reference's state -/
def w_rs (D : Int) (pt : Int32) (o : Nat → Int32) (dp : Nat) : Prop := (∀ m, m ≤ dp → ∃ v : Nat, v < (pu_list D).length ∧ o m = zi v) ∧ (pt = zi (-1) ∨ ∃ p : Nat, p < (pu_list D).length ∧ pt = zi p)
theorem w_join {D : Int} {fa fb fc : Nat → Int32} {la lb lc : Nat → Int64} (G : gR D fa fb fc la lb lc) (pt : Int32) (o : Nat → Int32) (dp : Nat) (hdp : dp ≤ 4) (hs : w_rs D pt o dp) (t1 t2 t3 t4 t5 t6 t7 : Int64) : ∃ (y1 y2 y3 y4 y5 y6 y7 : Int64) (o' : Nat → Int32) (x x' : Nat), f_X4_join (zi D) (zi (pu_list D).length) la lb lc t1 t2 t3 t4 t5 t6 t7 o (zi dp) pt = some (y1, y2, y3, y4, y5, y6, y7, o') ∧ (∀ m, m ≠ dp → o' m = o m) ∧ x < (pu_list D).length ∧ x' < (pu_list D).length ∧ o dp = zi x ∧ o' dp = zi x' ∧ ((pt = zi (-1) ∧ x' = x) ∨ ∃ p : Nat, p < (pu_list D).length ∧ pt = zi p ∧ x' = gT D x p) := by
  obtain ⟨h1, h2⟩ := hs
  have h40 := G.2.1
  obtain ⟨x, hx, hox⟩ := h1 dp (Nat.le_refl dp)
  obtain ⟨x1, x2⟩ := w_ix5 hdp
  rcases h2 with rfl | ⟨p, hp, rfl⟩
  · refine ⟨t1, t2, t3, t4, t5, t6, t7, o, x, x, ?_, fun m _ => rfl, hx, hx, hox, hox, Or.inl ⟨rfl, rfl⟩⟩
    rw [f_X4_join, if_pos (show zi (-1) = -1 from rfl)]
  · obtain ⟨y1, y2, y3, y4, y5, y6, y7, hy⟩ := g4 G t1 t2 t3 t4 t5 t6 t7 x p hx hp
    refine ⟨y1, y2, y3, y4, y5, y6, y7, upd o dp (zi (gT D x p)), x, gT D x p, ?_, fun m hm => ?_, hx, gT_lt G x p hx hp, hox, ?_, Or.inr ⟨p, hp, rfl, rfl⟩⟩
    · rw [f_X4_join, zim1, if_neg (by rw [zi_eq (by omega) (by omega) (by omega) (by omega)]; omega), e_g x2, x1, hox, hy, e_b8, e_g (by rw [x1] at x2; exact x2)]
    · unfold upd; rw [if_neg hm]
    · unfold upd; rw [if_pos rfl]
