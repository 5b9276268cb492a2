theorem h_b8 {a1 a2 a3 a4 a5 a6 a7 a8 b : Type} (x1 : a1) (x2 : a2) (x3 : a3) (x4 : a4) (x5 : a5) (x6 : a6) (x7 : a7) (x8 : a8) (k : a1 → a2 → a3 → a4 → a5 → a6 → a7 → a8 → Option b) : dm_b8 (some (x1, x2, x3, x4, x5, x6, x7, x8)) k = k x1 x2 x3 x4 x5 x6 x7 x8 := Eq.trans (e_b8 x1 x2 x3 x4 x5 x6 x7 x8 k) rfl
theorem h_b9 {a1 a2 a3 a4 a5 a6 a7 a8 a9 b : Type} (x1 : a1) (x2 : a2) (x3 : a3) (x4 : a4) (x5 : a5) (x6 : a6) (x7 : a7) (x8 : a8) (x9 : a9) (k : a1 → a2 → a3 → a4 → a5 → a6 → a7 → a8 → a9 → Option b) : dm_b9 (some (x1, x2, x3, x4, x5, x6, x7, x8, x9)) k = k x1 x2 x3 x4 x5 x6 x7 x8 x9 := Eq.trans (e_b9 x1 x2 x3 x4 x5 x6 x7 x8 x9 k) rfl
/-- one letter, in the reference -/
theorem rf_dig0 (D : Int) (la lb lc : Nat → Int64) (h n i k dp N : Nat) (wd o : Nat → Int32) (ab : Int32) (t1 t2 t3 t4 t5 t6 t7 : Int64) (hi : i < n) (hn : n ≤ 40) (hwd : wd i = zi k) (hk : 50 ≤ k ∧ k ≤ 57) : f_X4_word_L16 (zi D) (zi h) la lb lc (zi n) wd (N + 1) (zi i) ab (zi (-1)) (zi dp) t1 t2 t3 t4 t5 t6 t7 o = some (0, 1, t1, t2, t3, t4, t5, t6, t7, o) := by
  obtain ⟨x1, x2, x3⟩ := w_ix hi hn
  rw [f_X4_word_L16, if_neg x3, e_g x2, x1, h_let, hwd, (w_pow k (by omega)).2, if_pos hk, h_b1, if_neg (show ¬ (1 : Int32) = 0 by decide), if_pos (show zi (-1) = -1 from rfl)]
  rfl
theorem rf_dig1 (D : Int) (la lb lc : Nat → Int64) (h n i k dp p r N : Nat) (wd o o' : Nat → Int32) (ab : Int32) (t1 t2 t3 t4 t5 t6 t7 u1 u2 u3 u4 u5 u6 u7 y1 y2 y3 y4 y5 y6 y7 : Int64) (hi : i < n) (hn : n ≤ 40) (hwd : wd i = zi k) (hk : 50 ≤ k ∧ k ≤ 57) (hp : p < 40)
    (hr : f_X4_raised (zi D) (zi h) la lb lc t1 t2 t3 t4 t5 t6 t7 (zi p) (zi ((k : Int) - 48)) = some (zi r, u1, u2, u3, u4, u5, u6, u7)) (hj : f_X4_join (zi D) (zi h) la lb lc u1 u2 u3 u4 u5 u6 u7 o (zi dp) (zi r) = some (y1, y2, y3, y4, y5, y6, y7, o')) : f_X4_word_L16 (zi D) (zi h) la lb lc (zi n) wd (N + 1) (zi i) ab (zi p) (zi dp) t1 t2 t3 t4 t5 t6 t7 o = f_X4_word_L16 (zi D) (zi h) la lb lc (zi n) wd N (zi (i + 1 : Nat)) ab (zi (-1)) (zi dp) y1 y2 y3 y4 y5 y6 y7 o' := by
  obtain ⟨x1, x2, x3⟩ := w_ix hi hn
  rw [f_X4_word_L16, if_neg x3, e_g x2, x1, h_let, hwd, (w_pow k (by omega)).2, if_pos hk, h_b1, if_neg (show ¬ (1 : Int32) = 0 by decide), zim1, if_neg (by rw [zi_eq (by omega) (by omega) (by omega) (by omega)]; omega), zi48, zi_sub, hr, h_b8, hj, h_b8, h_let, w_s]
theorem rf_open (D : Int) (la lb lc : Nat → Int64) (h n i dp N : Nat) (wd o o' : Nat → Int32) (ab pt : Int32) (t1 t2 t3 t4 t5 t6 t7 y1 y2 y3 y4 y5 y6 y7 : Int64) (hi : i < n) (hn : n ≤ 40) (hdp : dp ≤ 4) (hwd : wd i = zi ((40 : Nat) : Int)) (hj : f_X4_join (zi D) (zi h) la lb lc t1 t2 t3 t4 t5 t6 t7 o (zi dp) pt = some (y1, y2, y3, y4, y5, y6, y7, o')) : f_X4_word_L16 (zi D) (zi h) la lb lc (zi n) wd (N + 1) (zi i) ab pt (zi dp) t1 t2 t3 t4 t5 t6 t7 o = if dp = 4 then some (0, 1, y1, y2, y3, y4, y5, y6, y7, o') else f_X4_word_L16 (zi D) (zi h) la lb lc (zi n) wd N (zi (i + 1 : Nat)) ab (zi (-1)) (zi (dp + 1 : Nat)) y1 y2 y3 y4 y5 y6 y7 (upd o' (dp + 1) 0) := by
  obtain ⟨x1, x2, x3⟩ := w_ix hi hn
  rw [f_X4_word_L16, if_neg x3, e_g x2, x1, h_let, hwd, (w_pow 40 (by omega)).2, if_neg (by omega), h_b1, if_pos rfl, hj, h_b8, if_pos (show zi ((40 : Nat) : Int) = 40 from rfl)]
  by_cases h4 : dp = 4
  · rw [if_pos h4, if_pos (by rw [h4]; rfl)]; rfl
  · obtain ⟨z1, z2⟩ := w_ix5 (d := dp + 1) (by omega)
    rw [if_neg h4, if_neg (show ¬ zi (dp : Int) = 4 by rw [zi4, zi_eq (by omega) (by omega) (by omega) (by omega)]; omega), h_let, w_s, e_g z2, z1, h_let, w_s]
    rfl
theorem rf_close (D : Int) (la lb lc : Nat → Int64) (h n i dp N : Nat) (wd o o' : Nat → Int32) (ab pt : Int32) (t1 t2 t3 t4 t5 t6 t7 y1 y2 y3 y4 y5 y6 y7 : Int64) (hi : i < n) (hn : n ≤ 40) (hdp : dp ≤ 4) (hwd : wd i = zi ((41 : Nat) : Int)) (hj : f_X4_join (zi D) (zi h) la lb lc t1 t2 t3 t4 t5 t6 t7 o (zi dp) pt = some (y1, y2, y3, y4, y5, y6, y7, o')) : f_X4_word_L16 (zi D) (zi h) la lb lc (zi n) wd (N + 1) (zi i) ab pt (zi dp) t1 t2 t3 t4 t5 t6 t7 o = if dp = 0 then some (0, 1, y1, y2, y3, y4, y5, y6, y7, o') else f_X4_word_L16 (zi D) (zi h) la lb lc (zi n) wd N (zi (i + 1 : Nat)) ab (o' dp) (zi (dp - 1 : Nat)) y1 y2 y3 y4 y5 y6 y7 o' := by
  obtain ⟨x1, x2, x3⟩ := w_ix hi hn
  rw [f_X4_word_L16, if_neg x3, e_g x2, x1, h_let, hwd, (w_pow 41 (by omega)).2, if_neg (by omega), h_b1, if_pos rfl, hj, h_b8, if_neg (show ¬ zi ((41 : Nat) : Int) = 40 by decide), if_pos (show zi ((41 : Nat) : Int) = 41 from rfl)]
  by_cases h4 : dp = 0
  · rw [if_pos h4, if_pos (by rw [h4]; rfl)]; rfl
  · obtain ⟨z1, z2⟩ := w_ix5 hdp
    rw [if_neg h4, if_neg (show ¬ zi (dp : Int) = 0 by rw [zi0, zi_eq (by omega) (by omega) (by omega) (by omega)]; omega), e_g z2, z1, h_let, h_let, w_p dp (by omega), h_let, w_s]
theorem rf_cap (D : Int) (la lb lc : Nat → Int64) (h n i k m dp N : Nat) (wd o o' : Nat → Int32) (ab pt : Int32) (t1 t2 t3 t4 t5 t6 t7 y1 y2 y3 y4 y5 y6 y7 : Int64) (hab : ab = 0 ∨ ab = 1) (hi : i < n) (hn : n ≤ 40) (hh : h ≤ 40) (hwd : wd i = zi k) (hk : 65 ≤ k ∧ k ≤ 90 ∧ m = k - 65) (hj : f_X4_join (zi D) (zi h) la lb lc t1 t2 t3 t4 t5 t6 t7 o (zi dp) pt = some (y1, y2, y3, y4, y5, y6, y7, o')) : f_X4_word_L16 (zi D) (zi h) la lb lc (zi n) wd (N + 1) (zi i) ab pt (zi dp) t1 t2 t3 t4 t5 t6 t7 o = if m < h then f_X4_word_L16 (zi D) (zi h) la lb lc (zi n) wd N (zi (i + 1 : Nat)) ab (zi m) (zi dp) y1 y2 y3 y4 y5 y6 y7 o' else f_X4_word_L16 (zi D) (zi h) la lb lc (zi n) wd N (zi (i + 1 : Nat)) 1 (zi ((0 : Nat) : Int)) (zi dp) y1 y2 y3 y4 y5 y6 y7 o' := by
  obtain ⟨x1, x2, x3⟩ := w_ix hi hn
  have lt97 : zi (k : Int) < 97 := by rw [zi97, zi_lt (by omega) (by omega) (by omega) (by omega)]; omega
  have em : zi (k : Int) - 65 = zi (m : Int) := by rw [zi65, zi_sub]; congr 1; omega
  rw [f_X4_word_L16, if_neg x3, e_g x2, x1, h_let, hwd, (w_pow k (by omega)).2, if_neg (by omega), h_b1, if_pos rfl, hj, h_b8, if_neg (show ¬ zi (k : Int) = 40 by rw [zi40, zi_eq (by omega) (by omega) (by omega) (by omega)]; omega), if_neg (show ¬ zi (k : Int) = 41 by rw [zi41, zi_eq (by omega) (by omega) (by omega) (by omega)]; omega), if_pos lt97, h_let, em]
  by_cases hm : m < h
  · have hc := ((q_has h m (by omega) (by omega) (by omega) (by omega)).1 (by omega)).2
    rcases hab with rfl | rfl
    · rw [if_pos hm, if_pos rfl, hc, h_b1, if_neg (show ¬ (1 : Int32) = 0 by decide), h_b1, if_neg (show ¬ (1 : Int32) = 0 by decide), if_pos lt97, h_let, w_s]
    · rw [if_pos hm, if_neg (show ¬ (1 : Int32) = 0 by decide), hc, h_b1, if_neg (show ¬ (1 : Int32) = 0 by decide), if_pos lt97, h_let, w_s]
  · have hc := ((q_has h m (by omega) (by omega) (by omega) (by omega)).2 (by omega)).2
    rcases hab with rfl | rfl
    · rw [if_neg hm, if_pos rfl, hc, h_b1, if_pos rfl, h_b1, if_pos rfl, h_let, w_s]
      rfl
    · rw [if_neg hm, if_neg (show ¬ (1 : Int32) = 0 by decide), hc, h_b1, if_pos rfl, h_let, w_s]
      rfl
theorem rf_sml (D : Int) (la lb lc : Nat → Int64) (h n i k m g dp N : Nat) (wd o o' : Nat → Int32) (ab pt : Int32) (t1 t2 t3 t4 t5 t6 t7 y1 y2 y3 y4 y5 y6 y7 u1 u2 u3 u4 u5 u6 u7 : Int64) (hab : ab = 0 ∨ ab = 1) (hi : i < n) (hn : n ≤ 40) (hh : h ≤ 40) (hwd : wd i = zi k) (hk : 97 ≤ k ∧ k ≤ 122 ∧ m = k - 97) (hj : f_X4_join (zi D) (zi h) la lb lc t1 t2 t3 t4 t5 t6 t7 o (zi dp) pt = some (y1, y2, y3, y4, y5, y6, y7, o')) (hv : m < h → f_X4_inverseOf (zi D) (zi h) la lb lc y1 y2 y3 y4 y5 y6 y7 (zi m) = some (zi g, u1, u2, u3, u4, u5, u6, u7)) : f_X4_word_L16 (zi D) (zi h) la lb lc (zi n) wd (N + 1) (zi i) ab pt (zi dp) t1 t2 t3 t4 t5 t6 t7 o = if m < h then f_X4_word_L16 (zi D) (zi h) la lb lc (zi n) wd N (zi (i + 1 : Nat)) ab (zi g) (zi dp) u1 u2 u3 u4 u5 u6 u7 o' else f_X4_word_L16 (zi D) (zi h) la lb lc (zi n) wd N (zi (i + 1 : Nat)) 1 (zi ((0 : Nat) : Int)) (zi dp) y1 y2 y3 y4 y5 y6 y7 o' := by
  obtain ⟨x1, x2, x3⟩ := w_ix hi hn
  have lt97 : ¬ zi (k : Int) < 97 := by rw [zi97, zi_lt (by omega) (by omega) (by omega) (by omega)]; omega
  have em : zi (k : Int) - 97 = zi (m : Int) := by rw [zi97, zi_sub]; congr 1; omega
  rw [f_X4_word_L16, if_neg x3, e_g x2, x1, h_let, hwd, (w_pow k (by omega)).2, if_neg (by omega), h_b1, if_pos rfl, hj, h_b8, if_neg (show ¬ zi (k : Int) = 40 by rw [zi40, zi_eq (by omega) (by omega) (by omega) (by omega)]; omega), if_neg (show ¬ zi (k : Int) = 41 by rw [zi41, zi_eq (by omega) (by omega) (by omega) (by omega)]; omega), if_neg lt97, h_let, em]
  by_cases hm : m < h
  · have hc := ((q_has h m (by omega) (by omega) (by omega) (by omega)).1 (by omega)).2
    rcases hab with rfl | rfl
    · rw [if_pos hm, if_pos rfl, hc, h_b1, if_neg (show ¬ (1 : Int32) = 0 by decide), h_b1, if_neg (show ¬ (1 : Int32) = 0 by decide), if_neg lt97, hv hm, h_b8, h_let, w_s]
    · rw [if_pos hm, if_neg (show ¬ (1 : Int32) = 0 by decide), hc, h_b1, if_neg (show ¬ (1 : Int32) = 0 by decide), if_neg lt97, hv hm, h_b8, h_let, w_s]
  · have hc := ((q_has h m (by omega) (by omega) (by omega) (by omega)).2 (by omega)).2
    rcases hab with rfl | rfl
    · rw [if_neg hm, if_pos rfl, hc, h_b1, if_pos rfl, h_b1, if_pos rfl, h_let, w_s]
      rfl
    · rw [if_neg hm, if_neg (show ¬ (1 : Int32) = 0 by decide), hc, h_b1, if_pos rfl, h_let, w_s]
      rfl
/-- one letter, in the class -/
theorem vl_dig (row fa fb o : Nat → Int32) (D : Int) (h n i k d p r N : Nat) (z1 z2 z3 z4 z5 z6 z7 z8 y1 y2 y3 y4 y5 y6 y7 y8 : Int32) (hi : i < n) (hn : n ≤ 40) (hrow : row i = zi k) (hk : 50 ≤ k ∧ k ≤ 57) (hr : f_X0_raised fa fb (zi D) (zi h) z1 z2 z3 z4 z5 z6 z7 z8 (zi p) (zi ((k : Int) - 48)) = some (zi r, y1, y2, y3, y4, y5, y6, y7, y8)) : f_X2_valueIn_L14 row (zi n) fa fb (zi D) (zi h) (N + 1) (zi i) (zi p) (zi d) o z1 z2 z3 z4 z5 z6 z7 z8 = f_X2_valueIn_L14 row (zi n) fa fb (zi D) (zi h) N (zi (i + 1 : Nat)) (zi r) (zi d) o y1 y2 y3 y4 y5 y6 y7 y8 := by
  obtain ⟨x1, x2, x3⟩ := w_ix hi hn
  rw [f_X2_valueIn_L14, if_neg x3, e_g x2, x1, h_let, hrow, (w_pow k (by omega)).1, if_pos hk, h_b1, if_neg (show ¬ (1 : Int32) = 0 by decide), zi48, zi_sub, hr, h_b9, h_let, w_s]
theorem vl_open (row fa fb o : Nat → Int32) (D : Int) (h n i d x q v N : Nat) (z1 z2 z3 z4 z5 z6 z7 z8 y1 y2 y3 y4 y5 y6 y7 y8 : Int32) (hi : i < n) (hn : n ≤ 40) (hd : d ≤ 3) (hrow : row i = zi ((40 : Nat) : Int)) (hx : o d = zi x) (hp : f_X0_product fa fb (zi D) (zi h) z1 z2 z3 z4 z5 z6 z7 z8 (zi x) (zi q) = some (zi v, y1, y2, y3, y4, y5, y6, y7, y8)) : f_X2_valueIn_L14 row (zi n) fa fb (zi D) (zi h) (N + 1) (zi i) (zi q) (zi d) o z1 z2 z3 z4 z5 z6 z7 z8 = f_X2_valueIn_L14 row (zi n) fa fb (zi D) (zi h) N (zi (i + 1 : Nat)) (zi ((0 : Nat) : Int)) (zi (d + 1 : Nat)) (upd (upd o d (zi v)) (d + 1) 0) y1 y2 y3 y4 y5 y6 y7 y8 := by
  obtain ⟨x1, x2, x3⟩ := w_ix hi hn
  obtain ⟨c1, c2⟩ := w_ix5 (d := d) (by omega)
  obtain ⟨c3, c4⟩ := w_ix5 (d := d + 1) (by omega)
  rw [f_X2_valueIn_L14, if_neg x3, e_g x2, x1, h_let, hrow, (w_pow 40 (by omega)).1, if_neg (by omega), h_b1, if_pos rfl, e_g c2, c1, hx, hp, h_b9, e_g (by rw [c1] at c2; exact c2), if_pos (show zi ((40 : Nat) : Int) = 40 from rfl), if_neg (show ¬ (4 : Int32) ≤ zi (d : Int) by rw [zi4, zi_le (by omega) (by omega) (by omega) (by omega)]; omega), h_let, w_s, e_g c4, c3, h_let, w_s]
  rfl
theorem vl_close (row fa fb o : Nat → Int32) (D : Int) (h n i d x q v N : Nat) (z1 z2 z3 z4 z5 z6 z7 z8 y1 y2 y3 y4 y5 y6 y7 y8 : Int32) (hi : i < n) (hn : n ≤ 40) (hd : d ≤ 4) (hd0 : 0 < d) (hrow : row i = zi ((41 : Nat) : Int)) (hx : o d = zi x) (hp : f_X0_product fa fb (zi D) (zi h) z1 z2 z3 z4 z5 z6 z7 z8 (zi x) (zi q) = some (zi v, y1, y2, y3, y4, y5, y6, y7, y8)) : f_X2_valueIn_L14 row (zi n) fa fb (zi D) (zi h) (N + 1) (zi i) (zi q) (zi d) o z1 z2 z3 z4 z5 z6 z7 z8 = f_X2_valueIn_L14 row (zi n) fa fb (zi D) (zi h) N (zi (i + 1 : Nat)) (zi v) (zi (d - 1 : Nat)) (upd o d (zi v)) y1 y2 y3 y4 y5 y6 y7 y8 := by
  obtain ⟨x1, x2, x3⟩ := w_ix hi hn
  obtain ⟨c1, c2⟩ := w_ix5 hd
  have c2' : ¬ (zi (d : Int) < 0 ∨ 5 ≤ d) := by rw [c1] at c2; exact c2
  have hu : (upd o d (zi v)) d = zi v := by unfold upd; rw [if_pos rfl]
  rw [f_X2_valueIn_L14, if_neg x3, e_g x2, x1, h_let, hrow, (w_pow 41 (by omega)).1, if_neg (by omega), h_b1, if_pos rfl, e_g c2, c1, hx, hp, h_b9, e_g c2', if_neg (show ¬ zi ((41 : Nat) : Int) = 40 by decide), if_pos (show zi ((41 : Nat) : Int) = 41 from rfl), if_neg (show ¬ zi (d : Int) ≤ 0 by rw [zi0, zi_le (by omega) (by omega) (by omega) (by omega)]; omega), e_g c2', hu, h_let, h_let, w_p d hd0, h_let, w_s]
theorem vl_cap (row fa fb o : Nat → Int32) (D : Int) (h n i d k m x q v N : Nat) (z1 z2 z3 z4 z5 z6 z7 z8 y1 y2 y3 y4 y5 y6 y7 y8 : Int32) (hi : i < n) (hn : n ≤ 40) (hd : d ≤ 4) (hrow : row i = zi k) (hk : 65 ≤ k ∧ k ≤ 90 ∧ m = k - 65) (hx : o d = zi x) (hp : f_X0_product fa fb (zi D) (zi h) z1 z2 z3 z4 z5 z6 z7 z8 (zi x) (zi q) = some (zi v, y1, y2, y3, y4, y5, y6, y7, y8)) : f_X2_valueIn_L14 row (zi n) fa fb (zi D) (zi h) (N + 1) (zi i) (zi q) (zi d) o z1 z2 z3 z4 z5 z6 z7 z8 = f_X2_valueIn_L14 row (zi n) fa fb (zi D) (zi h) N (zi (i + 1 : Nat)) (zi m) (zi d) (upd o d (zi v)) y1 y2 y3 y4 y5 y6 y7 y8 := by
  obtain ⟨x1, x2, x3⟩ := w_ix hi hn
  obtain ⟨c1, c2⟩ := w_ix5 hd
  have c2' : ¬ (zi (d : Int) < 0 ∨ 5 ≤ d) := by rw [c1] at c2; exact c2
  have hm : f_X2_numberOf (zi k) = some (zi m) := by
    rw [w_num k (by omega), if_pos ⟨hk.1, hk.2.1⟩]; congr 2; omega
  rw [f_X2_valueIn_L14, if_neg x3, e_g x2, x1, h_let, hrow, (w_pow k (by omega)).1, if_neg (by omega), h_b1, if_pos rfl, e_g c2, c1, hx, hp, h_b9, e_g c2', if_neg (show ¬ zi (k : Int) = 40 by rw [zi40, zi_eq (by omega) (by omega) (by omega) (by omega)]; omega), if_neg (show ¬ zi (k : Int) = 41 by rw [zi41, zi_eq (by omega) (by omega) (by omega) (by omega)]; omega), (w_let k (by omega)).2, if_pos ⟨hk.1, hk.2.1⟩, h_b1, if_neg (show ¬ (1 : Int32) = 0 by decide), hm, h_b1, h_let, w_s]
theorem vl_sml (row fa fb o : Nat → Int32) (D : Int) (h n i d k m g x q v N : Nat) (z1 z2 z3 z4 z5 z6 z7 z8 y1 y2 y3 y4 y5 y6 y7 y8 : Int32) (hi : i < n) (hn : n ≤ 40) (hd : d ≤ 4) (hrow : row i = zi k) (hk : 97 ≤ k ∧ k ≤ 122 ∧ m = k - 97) (hx : o d = zi x) (hp : f_X0_product fa fb (zi D) (zi h) z1 z2 z3 z4 z5 z6 z7 z8 (zi x) (zi q) = some (zi v, y1, y2, y3, y4, y5, y6, y7, y8)) (ho : f_X0_opposite fa fb (zi h) (zi m) = some (zi g)) : f_X2_valueIn_L14 row (zi n) fa fb (zi D) (zi h) (N + 1) (zi i) (zi q) (zi d) o z1 z2 z3 z4 z5 z6 z7 z8 = f_X2_valueIn_L14 row (zi n) fa fb (zi D) (zi h) N (zi (i + 1 : Nat)) (zi g) (zi d) (upd o d (zi v)) y1 y2 y3 y4 y5 y6 y7 y8 := by
  obtain ⟨x1, x2, x3⟩ := w_ix hi hn
  obtain ⟨c1, c2⟩ := w_ix5 hd
  have c2' : ¬ (zi (d : Int) < 0 ∨ 5 ≤ d) := by rw [c1] at c2; exact c2
  have hm : f_X2_numberOf (zi k) = some (zi m) := by
    rw [w_num k (by omega), if_neg (by omega)]; congr 2; omega
  rw [f_X2_valueIn_L14, if_neg x3, e_g x2, x1, h_let, hrow, (w_pow k (by omega)).1, if_neg (by omega), h_b1, if_pos rfl, e_g c2, c1, hx, hp, h_b9, e_g c2', if_neg (show ¬ zi (k : Int) = 40 by rw [zi40, zi_eq (by omega) (by omega) (by omega) (by omega)]; omega), if_neg (show ¬ zi (k : Int) = 41 by rw [zi41, zi_eq (by omega) (by omega) (by omega) (by omega)]; omega), (w_let k (by omega)).2, if_neg (by omega), h_b1, if_pos rfl, hm, h_b1, ho, h_b1, h_let, w_s]
