/-! Letters. -/
def alw (k : Nat) : Bool := decide (k = 40 ∨ k = 41 ∨ (50 ≤ k ∧ k ≤ 57) ∨ (65 ≤ k ∧ k ≤ 90) ∨ (97 ≤ k ∧ k ≤ 122))
theorem w_and (x : Int32) : ∃ b : Nat, b ≤ 255 ∧ x &&& 255 = zi b := by
  have h : (x &&& 255).toBitVec.toNat ≤ 255 := by
    rw [Int32.toBitVec_and, BitVec.toNat_and]
    exact Nat.le_trans Nat.and_le_right (by decide)
  refine ⟨(x &&& 255).toBitVec.toNat, h, ?_⟩
  apply Int32.toBitVec_inj.1
  apply BitVec.eq_of_toNat_eq
  show _ = (BitVec.ofInt 32 (((x &&& 255).toBitVec.toNat : Nat) : Int)).toNat
  rw [BitVec.ofInt_natCast, BitVec.toNat_ofNat, Nat.mod_eq_of_lt (by omega)]
theorem w_bits (X : BitVec 32) (s : Nat) (hs : s ≤ 24) : (X >>> s) &&& 255#32 = (X.sshiftRight s) &&& 255#32 := by
  apply BitVec.eq_of_getLsbD_eq
  intro i hi
  rw [BitVec.getLsbD_and, BitVec.getLsbD_and, BitVec.getLsbD_ushiftRight, BitVec.getLsbD_sshiftRight]
  by_cases h8 : i < 8
  · rw [if_pos (by omega), show decide (32 ≤ i) = false by rw [decide_eq_false_iff_not]; omega, Bool.not_false, Bool.true_and]
  · have : (255#32).getLsbD i = false := by
      have e : ∀ i : Fin 32, 8 ≤ i.val → (255#32).getLsbD i.val = false := by decide +kernel
      exact e ⟨i, hi⟩ (by show 8 ≤ i; omega)
    rw [this, Bool.and_false, Bool.and_false]
theorem w_byte (p : Int32) (i : Nat) (hi : i < 4) : ∃ b : Nat, b ≤ 255 ∧ f_X2_byteOf p (zi i) = some (zi b) ∧ (p >>> (((8 : Int32) * zi i) &&& 31)) &&& (255 : Int32) = zi b := by
  obtain ⟨b, hb, e⟩ := w_and (p >>> (((8 : Int32) * zi i) &&& 31))
  refine ⟨b, hb, ?_, e⟩
  rw [← e, f_X2_byteOf]
  congr 1
  apply Int32.toBitVec_inj.1
  rcases (show i = 0 ∨ i = 1 ∨ i = 2 ∨ i = 3 by omega) with rfl | rfl | rfl | rfl
  · exact w_bits p.toBitVec 0 (by omega)
  · exact w_bits p.toBitVec 8 (by omega)
  · exact w_bits p.toBitVec 16 (by omega)
  · exact w_bits p.toBitVec 24 (by omega)
theorem w_alw (b : Nat) (hb : b ≤ 255) : f_X2_isAllowed (zi b) = some (if alw b = true then 1 else 0) := by
  have e : ∀ b : Fin 256, f_X2_isAllowed (zi (b.val : Int)) = some (if alw b.val = true then 1 else 0) := by decide +kernel
  exact e ⟨b, by omega⟩
/-- what the reference asks of a letter -/
theorem w_ref (b : Nat) (hb : b ≤ 255) {β : Type} (X Y : Option β) : (dm_b1 (f_X4_isLetter (zi b)) fun r17 => if r17 = 0 then (dm_b1 (f_X4_isDigit (zi b)) fun r21 => if r21 = 0 then (if zi b = (40 : Int32) then X else if zi b = (41 : Int32) then X else Y) else X) else X) = if alw b = true then X else Y := by
  have e : ∀ b : Fin 256, (dm_b1 (f_X4_isLetter (zi (b.val : Int))) fun r17 => if r17 = 0 then (dm_b1 (f_X4_isDigit (zi (b.val : Int))) fun r21 => if r21 = 0 then (if zi (b.val : Int) = (40 : Int32) then some true else if zi (b.val : Int) = (41 : Int32) then some true else some false) else some true) else some true) = some (alw b.val) := by decide +kernel
  have e1 := e ⟨b, by omega⟩
  have e1 : (dm_b1 (f_X4_isLetter (zi (b : Int))) fun r17 => if r17 = 0 then (dm_b1 (f_X4_isDigit (zi (b : Int))) fun r21 => if r21 = 0 then (if zi (b : Int) = (40 : Int32) then some true else if zi (b : Int) = (41 : Int32) then some true else some false) else some true) else some true) = some (alw b) := e1
  have dl : ∃ r, f_X4_isLetter (zi (b : Int)) = some r := by
    unfold f_X4_isLetter; (repeat' split) <;> exact ⟨_, rfl⟩
  have dd : ∃ r, f_X4_isDigit (zi (b : Int)) = some r := by
    unfold f_X4_isDigit; (repeat' split) <;> exact ⟨_, rfl⟩
  obtain ⟨r, hr⟩ := dl
  obtain ⟨q, hq⟩ := dd
  rw [hr, hq] at e1 ⊢
  rw [e_b1, e_b1] at e1 ⊢
  by_cases c1 : r = 0
  · rw [if_pos c1] at e1 ⊢
    by_cases c2 : q = 0
    · rw [if_pos c2] at e1 ⊢
      by_cases c3 : zi (b : Int) = 40
      · rw [if_pos c3] at e1 ⊢; rw [← Option.some.inj e1, if_pos rfl]
      · rw [if_neg c3] at e1 ⊢
        by_cases c4 : zi (b : Int) = 41
        · rw [if_pos c4] at e1 ⊢; rw [← Option.some.inj e1, if_pos rfl]
        · rw [if_neg c4] at e1 ⊢; rw [← Option.some.inj e1, if_neg (by decide)]
    · rw [if_neg c2] at e1 ⊢; rw [← Option.some.inj e1, if_pos rfl]
  · rw [if_neg c1] at e1 ⊢; rw [← Option.some.inj e1, if_pos rfl]
theorem w_nar (b : Nat) (hb : b ≤ 255) : vp_nar .char ((zi (b : Int)).toUInt32 % 65536).toInt32 = zi b := by
  have e : ∀ b : Fin 256, vp_nar .char ((zi (b.val : Int)).toUInt32 % 65536).toInt32 = zi (b.val : Int) := by decide +kernel
  exact e ⟨b, by omega⟩
def w_rows (row wd : Nat → Int32) (n : Nat) : Prop := ∀ i, i < n → ∃ k : Nat, row i = zi k ∧ wd i = zi k ∧ alw k = true
theorem w_iff (row : Nat → Int32) (len let9 : Int32) (wd : Nat → Int32) : pu_RW row len let9 wd ↔ ∃ n : Nat, n ≤ 40 ∧ len = zi n ∧ let9 = zi n ∧ w_rows row wd n := by
  unfold pu_RW w_rows alw
  constructor
  · rintro ⟨n, h1, h2, h3, h4⟩
    refine ⟨n, h1, by rw [h2, zi_ofNat], by rw [h3, zi_ofNat], fun i hi => ?_⟩
    obtain ⟨k, q1, q2, q3⟩ := h4 i hi
    exact ⟨k, by rw [q1, zi_ofNat], by rw [q2, zi_ofNat], by rw [decide_eq_true_eq]; exact q3⟩
  · rintro ⟨n, h1, h2, h3, h4⟩
    refine ⟨n, h1, by rw [h2, zi_ofNat], by rw [h3, zi_ofNat], fun i hi => ?_⟩
    obtain ⟨k, q1, q2, q3⟩ := h4 i hi
    exact ⟨k, by rw [q1, zi_ofNat], by rw [q2, zi_ofNat], by rw [decide_eq_true_eq] at q3; exact q3⟩
/-- the letters are taken over -/
theorem w_store (p : Int32) (hal : ∀ i, i < 4 → True) (j : Nat) : ∀ (n : Nat) (row wd : Nat → Int32) (N1 N2 : Nat), j ≤ 4 → (∀ i, i < j → ∃ b : Nat, b ≤ 255 ∧ alw b = true ∧ f_X2_byteOf p (zi i) = some (zi b) ∧ (p >>> (((8 : Int32) * zi i) &&& 31)) &&& (255 : Int32) = zi b) → w_rows row wd n → n + j ≤ 40 → j < N1 → j < N2 → ∃ row' wd', f_X2_append_L53 p N1 (zi ((j : Int) - 1)) row (zi n) = some (1, row', zi (n + j : Nat)) ∧ f_X4_put_L88 p N2 (zi ((j : Int) - 1)) (zi n) wd = some (1, 0, zi (n + j : Nat), wd') ∧ w_rows row' wd' (n + j) := by
  induction j with
  | zero =>
    intro n row wd N1 N2 hj hb hr hn h1 h2
    obtain ⟨N1, rfl⟩ : ∃ m, N1 = m + 1 := ⟨N1 - 1, by omega⟩
    obtain ⟨N2, rfl⟩ : ∃ m, N2 = m + 1 := ⟨N2 - 1, by omega⟩
    refine ⟨row, wd, ?_, ?_, hr⟩
    · rw [f_X2_append_L53, zi0, if_pos (by rw [zi_lt (by omega) (by omega) (by omega) (by omega)]; omega)]; rfl
    · rw [f_X4_put_L88, if_pos (by rw [zi0, zi_lt (by omega) (by omega) (by omega) (by omega)]; omega)]; rfl
  | succ j ih =>
    intro n row wd N1 N2 hj hb hr hn h1 h2
    obtain ⟨N1, rfl⟩ : ∃ m, N1 = m + 1 := ⟨N1 - 1, by omega⟩
    obtain ⟨N2, rfl⟩ : ∃ m, N2 = m + 1 := ⟨N2 - 1, by omega⟩
    obtain ⟨b, b1, b2, b3, b4⟩ := hb j (by omega)
    have hni : (zi (n : Int)).toNatClampNeg = n := by rw [zi_nat (by omega) (by omega)]; omega
    have hg : ¬ (zi (n : Int) < 0 ∨ 40 ≤ (zi (n : Int)).toNatClampNeg) := by rw [zi0, zi_lt (by omega) (by omega) (by omega) (by omega), hni]; omega
    have hrows : w_rows (upd row n (zi b)) (upd wd n (zi b)) (n + 1) := by
      intro i hi
      unfold upd
      by_cases h : i = n
      · rw [if_pos h, if_pos h]; exact ⟨b, rfl, rfl, b2⟩
      · rw [if_neg h, if_neg h]; exact hr i (by omega)
    obtain ⟨row', wd', r1, r2, r3⟩ := ih (n + 1) (upd row n (zi b)) (upd wd n (zi b)) N1 N2 (by omega) (fun i hi => hb i (by omega)) hrows (by omega) (by omega) (by omega)
    have ej : (((j + 1 : Nat) : Int) - 1) = (j : Int) := by omega
    rw [show n + 1 + j = n + (j + 1) by omega] at r1 r2 r3
    refine ⟨row', wd', ?_, ?_, r3⟩
    · rw [ej, f_X2_append_L53, if_neg (by rw [zi0, zi_lt (by omega) (by omega) (by omega) (by omega)]; omega), b3, e_b1, e_g hg, hni, e_let, e_let, zim1, zi1, zi_add, zi_add]
      exact r1
    · rw [ej, f_X4_put_L88, if_neg (by rw [zi0, zi_lt (by omega) (by omega) (by omega) (by omega)]; omega), b4, e_let, e_g hg, hni, w_nar b b1, e_let, e_let, zim1, zi1, zi_add, zi_add]
      exact r2
theorem w_check (p : Int32) (row wd : Nat → Int32) (len n : Nat) (hn : n ≤ 4) (j : Nat) : ∀ (i N1 N2 : Nat), i + j = n → j < N1 → j < N2 → 
    ((∀ q, i ≤ q → q < n → ∃ b : Nat, b ≤ 255 ∧ alw b = true ∧ f_X2_byteOf p (zi q) = some (zi b) ∧ (p >>> (((8 : Int32) * zi q) &&& 31)) &&& (255 : Int32) = zi b) ∧ f_X2_append_L25 row (zi len) p (zi n) N1 (zi i) = f_X2_append_L53 p 100000 (zi ((n : Int) - 1)) row (zi len) ∧ f_X4_put_L29 (zi len) wd p (zi n) N2 (zi i) = f_X4_put_L88 p 100000 (zi ((n : Int) - 1)) (zi len) wd) ∨
    (f_X2_append_L25 row (zi len) p (zi n) N1 (zi i) = some (0, row, zi len) ∧ f_X4_put_L29 (zi len) wd p (zi n) N2 (zi i) = some (0, 0, zi len, wd)) := by
  induction j with
  | zero =>
    intro i N1 N2 hi h1 h2
    obtain ⟨N1, rfl⟩ : ∃ m, N1 = m + 1 := ⟨N1 - 1, by omega⟩
    obtain ⟨N2, rfl⟩ : ∃ m, N2 = m + 1 := ⟨N2 - 1, by omega⟩
    left
    refine ⟨fun q q1 q2 => by omega, ?_, ?_⟩
    · rw [f_X2_append_L25, if_pos (by rw [zi_le (by omega) (by omega) (by omega) (by omega)]; omega), h_let, zi1, zi_sub]
    · rw [f_X4_put_L29, if_pos (by rw [zi_le (by omega) (by omega) (by omega) (by omega)]; omega), h_let, zi1, zi_sub]
  | succ j ih =>
    intro i N1 N2 hi h1 h2
    obtain ⟨N1, rfl⟩ : ∃ m, N1 = m + 1 := ⟨N1 - 1, by omega⟩
    obtain ⟨N2, rfl⟩ : ∃ m, N2 = m + 1 := ⟨N2 - 1, by omega⟩
    obtain ⟨b, b1, b3, b4⟩ := w_byte p i (by omega)
    have hi1 : zi (i : Int) + 1 = zi (i + 1 : Nat) := by rw [zi1, zi_add]; rfl
    have e1 : f_X2_append_L25 row (zi len) p (zi n) (N1 + 1) (zi i) = if alw b = true then f_X2_append_L25 row (zi len) p (zi n) N1 (zi (i + 1 : Nat)) else some (0, row, zi len) := by
      rw [f_X2_append_L25, if_neg (by rw [zi_le (by omega) (by omega) (by omega) (by omega)]; omega), b3, h_b1, w_alw b b1, h_b1]
      by_cases ha : alw b = true
      · rw [if_pos ha, if_pos ha, if_neg (show ¬ (1 : Int32) = 0 by decide), h_let, hi1]
      · rw [if_neg ha, if_neg ha, if_pos rfl]
    have e2 : f_X4_put_L29 (zi len) wd p (zi n) (N2 + 1) (zi i) = if alw b = true then f_X4_put_L29 (zi len) wd p (zi n) N2 (zi (i + 1 : Nat)) else some (0, 0, zi len, wd) := by
      rw [f_X4_put_L29, if_neg (by rw [zi_le (by omega) (by omega) (by omega) (by omega)]; omega), b4]
      simp only [h_let, hi1]
      exact w_ref b b1 _ _
    by_cases ha : alw b = true
    · rw [if_pos ha] at e1 e2
      rw [e1, e2]
      rcases ih (i + 1) N1 N2 (by omega) (by omega) (by omega) with ⟨g1, g2, g3⟩ | g
      · left
        refine ⟨fun q q1 q2 => ?_, g2, g3⟩
        rcases Nat.lt_or_ge i q with h | h
        · exact g1 q h q2
        · obtain rfl : q = i := by omega
          exact ⟨b, b1, ha, b3, b4⟩
      · right; exact g
    · rw [if_neg ha] at e1 e2
      right; exact ⟨e1, e2⟩
theorem pu_put (xcfa : Nat → Int32) (xcfb : Nat → Int32) (xcfc : Nat → Int32) (xcdd : Int32) (xcsz : Int32) (xlra : Int32) (xlrb : Int32) (xlrc : Int32) (xlrp : Int32) (xlrq : Int32) (xlrr : Int32) (xlrs : Int32) (xlrd : Int32) (xany : Int32) (xwrow : Nat → Int32) (xwlen : Int32) (mdd : Int32) (mn : Int32) (mla : Nat → Int64) (mlb : Nat → Int64) (mlc : Nat → Int64) (msome : Int32) (mlast : Nat → Int64) (mlet : Int32) (mwd : Nat → Int32) (hR : pu_R xcfa xcfb xcfc xcdd xcsz xany xlra xlrb xlrc xlrp xlrq xlrr xlrs xlrd xwrow xwlen mdd mn mla mlb mlc msome mlast mlet mwd) (p0 : Int32) (p1 : Int32) : (∃ (rv : Int32) (xwrow' : Nat → Int32) (xwlen' : Int32) (mthr' : Int32) (mlet' : Int32) (mwd' : Nat → Int32), f_X3_put xwrow xwlen p0 p1 = some (rv, xwrow', xwlen') ∧ f_X4_put mlet mwd p0 p1 = some (rv, mthr', mlet', mwd') ∧ pu_R xcfa xcfb xcfc xcdd xcsz xany xlra xlrb xlrc xlrp xlrq xlrr xlrs xlrd xwrow' xwlen' mdd mn mla mlb mlc msome mlast mlet' mwd') := by
  obtain ⟨hL, hRR, hRW⟩ := hR
  rw [w_iff] at hRW
  obtain ⟨len, l1, rfl, rfl, hr⟩ := hRW
  have g1 := zi_ge p1
  have g2 := zi_gt p1
  rw [zi_of p1]
  generalize p1.toInt = n at g1 g2
  have hno : ∀ (X : Option (Int32 × (Nat → Int32) × Int32)) (Y : Option (Int32 × Int32 × Int32 × (Nat → Int32))), X = some (0, xwrow, zi len) → Y = some (0, 0, zi len, mwd) → (∃ (rv : Int32) (xwrow' : Nat → Int32) (xwlen' : Int32) (mthr' : Int32) (mlet' : Int32) (mwd' : Nat → Int32), (dm_b3 X fun r1 w2 w3 => dm_g (r1 = 0 ∨ r1 = 1) <| some (r1, w2, w3)) = some (rv, xwrow', xwlen') ∧ Y = some (rv, mthr', mlet', mwd') ∧ pu_R xcfa xcfb xcfc xcdd xcsz xany xlra xlrb xlrc xlrp xlrq xlrr xlrs xlrd xwrow' xwlen' mdd mn mla mlb mlc msome mlast mlet' mwd') := by
    intro X Y hX hY
    subst hX
    exact ⟨0, xwrow, zi len, 0, zi len, mwd, rfl, hY, hL, hRR, by rw [w_iff]; exact ⟨len, l1, rfl, rfl, hr⟩⟩
  rw [f_X3_put, f_X2_append, f_X4_put]
  by_cases h1 : 1 ≤ n ∧ n ≤ 4
  rotate_left
  · apply hno
    · by_cases h0 : n < 1
      · rw [if_pos (by rw [zi1, zi_lt (by omega) (by omega) (by omega) (by omega)]; omega)]
      · rw [if_neg (by rw [zi1, zi_lt (by omega) (by omega) (by omega) (by omega)]; omega), if_pos (by rw [zi4, zi_lt (by omega) (by omega) (by omega) (by omega)]; omega)]
    · rw [show f_X4_outside (zi n) 1 4 = some 1 from (q_out n 1 4 g1 g2 (by omega) (by omega) (by omega) (by omega)).2 h1, e_b1, if_neg (show ¬ (1 : Int32) = 0 by decide)]
  rw [if_neg (by rw [zi1, zi_lt (by omega) (by omega) (by omega) (by omega)]; omega), if_neg (by rw [zi4, zi_lt (by omega) (by omega) (by omega) (by omega)]; omega), show f_X4_outside (zi n) 1 4 = some 0 from (q_out n 1 4 g1 g2 (by omega) (by omega) (by omega) (by omega)).1 h1, h_b1, if_pos rfl, zi_add, zi40]
  by_cases h2 : (len : Int) + n ≤ 40
  rotate_left
  · apply hno
    · rw [if_neg (by rw [zi_le (by omega) (by omega) (by omega) (by omega)]; omega)]
    · rw [if_neg (by rw [zi_le (by omega) (by omega) (by omega) (by omega)]; omega)]
  rw [if_pos (by rw [zi_le (by omega) (by omega) (by omega) (by omega)]; omega), if_pos (by rw [zi_le (by omega) (by omega) (by omega) (by omega)]; omega)]
  obtain ⟨n, rfl⟩ : ∃ m : Nat, n = m := ⟨n.toNat, by omega⟩
  rcases w_check p0 xwrow mwd len n (by omega) n 0 100000 100000 (by omega) (by omega) (by omega) with ⟨c1, c2, c3⟩ | ⟨c2, c3⟩
  · obtain ⟨row', wd', r1, r2, r3⟩ := w_store p0 (fun _ _ => trivial) n len xwrow mwd 100000 100000 (by omega) (fun i hi => c1 i (by omega) hi) hr (by omega) (by omega) (by omega)
    have c2 : f_X2_append_L25 xwrow (zi len) p0 (zi n) 100000 0 = _ := c2
    have c3 : f_X4_put_L29 (zi len) mwd p0 (zi n) 100000 0 = _ := c3
    rw [c2, c3, r1, r2]
    exact ⟨1, row', zi (len + n : Nat), 0, zi (len + n : Nat), wd', rfl, rfl, hL, hRR, by rw [w_iff]; exact ⟨len + n, by omega, rfl, rfl, r3⟩⟩
  · exact hno _ _ c2 c3
