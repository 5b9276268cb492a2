/-! The group at every discriminant, worked out by the kernel. -/
theorem nst_e0 {β : Type} (x : Nat) (k : Nat → β) : nst x k = k x := by cases x <;> rfl
theorem nall_e0 (f : Nat → Bool) (n : Nat) (h : nall f n = true) : ∀ i, i < n → f i = true := by
  induction n with
  | zero => intro i hi; omega
  | succ n ih =>
    intro i hi
    have e : nall f (n + 1) = cond (f n) (nall f n) false := rfl
    rw [e] at h
    cases hf : f n
    · rw [hf] at h; cases h
    · rw [hf] at h
      rcases Nat.lt_or_ge i n with g | g
      · exact ih h i g
      · obtain rfl : i = n := by omega
        exact hf
theorem chk_of (d0 n : Nat) (h : chkR d0 n = true) (d : Nat) (h1 : d0 ≤ d) (h2 : d < d0 + n) (h3 : d % 4 = 0 ∨ d % 4 = 3) : chkD d = true := by
  have e : nst (Nat.add d0 (d - d0)) (fun d => cond (or (Nat.beq (Nat.mod d 4) 0) (Nat.beq (Nat.mod d 4) 3)) (chkD d) true) = true := nall_e0 _ n h (d - d0) (by omega)
  rw [nst_e0, show Nat.add d0 (d - d0) = d by show d0 + (d - d0) = d; omega] at e
  have g : or (Nat.beq (Nat.mod d 4) 0) (Nat.beq (Nat.mod d 4) 3) = true := by
    rcases h3 with g | g
    · rw [show Nat.mod d 4 = 0 from g]; rfl
    · rw [show Nat.mod d 4 = 3 from g]; rfl
  rw [g] at e
  exact e
set_option maxRecDepth 100000 in
theorem chk_0 : chkR 3 50 = true := by decide +kernel
set_option maxRecDepth 100000 in
theorem chk_1 : chkR 53 50 = true := by decide +kernel
set_option maxRecDepth 100000 in
theorem chk_2 : chkR 103 50 = true := by decide +kernel
set_option maxRecDepth 100000 in
theorem chk_3 : chkR 153 50 = true := by decide +kernel
set_option maxRecDepth 100000 in
theorem chk_4 : chkR 203 50 = true := by decide +kernel
set_option maxRecDepth 100000 in
theorem chk_5 : chkR 253 50 = true := by decide +kernel
set_option maxRecDepth 100000 in
theorem chk_6 : chkR 303 50 = true := by decide +kernel
set_option maxRecDepth 100000 in
theorem chk_7 : chkR 353 50 = true := by decide +kernel
set_option maxRecDepth 100000 in
theorem chk_8 : chkR 403 50 = true := by decide +kernel
set_option maxRecDepth 100000 in
theorem chk_9 : chkR 453 50 = true := by decide +kernel
set_option maxRecDepth 100000 in
theorem chk_10 : chkR 503 50 = true := by decide +kernel
set_option maxRecDepth 100000 in
theorem chk_11 : chkR 553 50 = true := by decide +kernel
set_option maxRecDepth 100000 in
theorem chk_12 : chkR 603 50 = true := by decide +kernel
set_option maxRecDepth 100000 in
theorem chk_13 : chkR 653 50 = true := by decide +kernel
set_option maxRecDepth 100000 in
theorem chk_14 : chkR 703 50 = true := by decide +kernel
set_option maxRecDepth 100000 in
theorem chk_15 : chkR 753 50 = true := by decide +kernel
set_option maxRecDepth 100000 in
theorem chk_16 : chkR 803 50 = true := by decide +kernel
set_option maxRecDepth 100000 in
theorem chk_17 : chkR 853 50 = true := by decide +kernel
set_option maxRecDepth 100000 in
theorem chk_18 : chkR 903 50 = true := by decide +kernel
set_option maxRecDepth 100000 in
theorem chk_19 : chkR 953 50 = true := by decide +kernel
set_option maxRecDepth 100000 in
theorem chk_20 : chkR 1003 50 = true := by decide +kernel
set_option maxRecDepth 100000 in
theorem chk_21 : chkR 1053 50 = true := by decide +kernel
set_option maxRecDepth 100000 in
theorem chk_22 : chkR 1103 50 = true := by decide +kernel
set_option maxRecDepth 100000 in
theorem chk_23 : chkR 1153 50 = true := by decide +kernel
set_option maxRecDepth 100000 in
theorem chk_24 : chkR 1203 50 = true := by decide +kernel
set_option maxRecDepth 100000 in
theorem chk_25 : chkR 1253 50 = true := by decide +kernel
set_option maxRecDepth 100000 in
theorem chk_26 : chkR 1303 50 = true := by decide +kernel
set_option maxRecDepth 100000 in
theorem chk_27 : chkR 1353 50 = true := by decide +kernel
set_option maxRecDepth 100000 in
theorem chk_28 : chkR 1403 50 = true := by decide +kernel
set_option maxRecDepth 100000 in
theorem chk_29 : chkR 1453 50 = true := by decide +kernel
set_option maxRecDepth 100000 in
theorem chk_30 : chkR 1503 50 = true := by decide +kernel
set_option maxRecDepth 100000 in
theorem chk_31 : chkR 1553 50 = true := by decide +kernel
set_option maxRecDepth 100000 in
theorem chk_32 : chkR 1603 50 = true := by decide +kernel
set_option maxRecDepth 100000 in
theorem chk_33 : chkR 1653 50 = true := by decide +kernel
set_option maxRecDepth 100000 in
theorem chk_34 : chkR 1703 50 = true := by decide +kernel
set_option maxRecDepth 100000 in
theorem chk_35 : chkR 1753 50 = true := by decide +kernel
set_option maxRecDepth 100000 in
theorem chk_36 : chkR 1803 50 = true := by decide +kernel
set_option maxRecDepth 100000 in
theorem chk_37 : chkR 1853 50 = true := by decide +kernel
set_option maxRecDepth 100000 in
theorem chk_38 : chkR 1903 50 = true := by decide +kernel
set_option maxRecDepth 100000 in
theorem chk_39 : chkR 1953 48 = true := by decide +kernel
theorem chk_all (d : Nat) (h1 : 3 ≤ d) (h2 : d ≤ 2000) (h3 : d % 4 = 0 ∨ d % 4 = 3) : chkD d = true := by
  rcases Nat.lt_or_ge d 53 with g | h1
  · exact chk_of 3 50 chk_0 d (by omega) (by omega) h3
  rcases Nat.lt_or_ge d 103 with g | h1
  · exact chk_of 53 50 chk_1 d (by omega) (by omega) h3
  rcases Nat.lt_or_ge d 153 with g | h1
  · exact chk_of 103 50 chk_2 d (by omega) (by omega) h3
  rcases Nat.lt_or_ge d 203 with g | h1
  · exact chk_of 153 50 chk_3 d (by omega) (by omega) h3
  rcases Nat.lt_or_ge d 253 with g | h1
  · exact chk_of 203 50 chk_4 d (by omega) (by omega) h3
  rcases Nat.lt_or_ge d 303 with g | h1
  · exact chk_of 253 50 chk_5 d (by omega) (by omega) h3
  rcases Nat.lt_or_ge d 353 with g | h1
  · exact chk_of 303 50 chk_6 d (by omega) (by omega) h3
  rcases Nat.lt_or_ge d 403 with g | h1
  · exact chk_of 353 50 chk_7 d (by omega) (by omega) h3
  rcases Nat.lt_or_ge d 453 with g | h1
  · exact chk_of 403 50 chk_8 d (by omega) (by omega) h3
  rcases Nat.lt_or_ge d 503 with g | h1
  · exact chk_of 453 50 chk_9 d (by omega) (by omega) h3
  rcases Nat.lt_or_ge d 553 with g | h1
  · exact chk_of 503 50 chk_10 d (by omega) (by omega) h3
  rcases Nat.lt_or_ge d 603 with g | h1
  · exact chk_of 553 50 chk_11 d (by omega) (by omega) h3
  rcases Nat.lt_or_ge d 653 with g | h1
  · exact chk_of 603 50 chk_12 d (by omega) (by omega) h3
  rcases Nat.lt_or_ge d 703 with g | h1
  · exact chk_of 653 50 chk_13 d (by omega) (by omega) h3
  rcases Nat.lt_or_ge d 753 with g | h1
  · exact chk_of 703 50 chk_14 d (by omega) (by omega) h3
  rcases Nat.lt_or_ge d 803 with g | h1
  · exact chk_of 753 50 chk_15 d (by omega) (by omega) h3
  rcases Nat.lt_or_ge d 853 with g | h1
  · exact chk_of 803 50 chk_16 d (by omega) (by omega) h3
  rcases Nat.lt_or_ge d 903 with g | h1
  · exact chk_of 853 50 chk_17 d (by omega) (by omega) h3
  rcases Nat.lt_or_ge d 953 with g | h1
  · exact chk_of 903 50 chk_18 d (by omega) (by omega) h3
  rcases Nat.lt_or_ge d 1003 with g | h1
  · exact chk_of 953 50 chk_19 d (by omega) (by omega) h3
  rcases Nat.lt_or_ge d 1053 with g | h1
  · exact chk_of 1003 50 chk_20 d (by omega) (by omega) h3
  rcases Nat.lt_or_ge d 1103 with g | h1
  · exact chk_of 1053 50 chk_21 d (by omega) (by omega) h3
  rcases Nat.lt_or_ge d 1153 with g | h1
  · exact chk_of 1103 50 chk_22 d (by omega) (by omega) h3
  rcases Nat.lt_or_ge d 1203 with g | h1
  · exact chk_of 1153 50 chk_23 d (by omega) (by omega) h3
  rcases Nat.lt_or_ge d 1253 with g | h1
  · exact chk_of 1203 50 chk_24 d (by omega) (by omega) h3
  rcases Nat.lt_or_ge d 1303 with g | h1
  · exact chk_of 1253 50 chk_25 d (by omega) (by omega) h3
  rcases Nat.lt_or_ge d 1353 with g | h1
  · exact chk_of 1303 50 chk_26 d (by omega) (by omega) h3
  rcases Nat.lt_or_ge d 1403 with g | h1
  · exact chk_of 1353 50 chk_27 d (by omega) (by omega) h3
  rcases Nat.lt_or_ge d 1453 with g | h1
  · exact chk_of 1403 50 chk_28 d (by omega) (by omega) h3
  rcases Nat.lt_or_ge d 1503 with g | h1
  · exact chk_of 1453 50 chk_29 d (by omega) (by omega) h3
  rcases Nat.lt_or_ge d 1553 with g | h1
  · exact chk_of 1503 50 chk_30 d (by omega) (by omega) h3
  rcases Nat.lt_or_ge d 1603 with g | h1
  · exact chk_of 1553 50 chk_31 d (by omega) (by omega) h3
  rcases Nat.lt_or_ge d 1653 with g | h1
  · exact chk_of 1603 50 chk_32 d (by omega) (by omega) h3
  rcases Nat.lt_or_ge d 1703 with g | h1
  · exact chk_of 1653 50 chk_33 d (by omega) (by omega) h3
  rcases Nat.lt_or_ge d 1753 with g | h1
  · exact chk_of 1703 50 chk_34 d (by omega) (by omega) h3
  rcases Nat.lt_or_ge d 1803 with g | h1
  · exact chk_of 1753 50 chk_35 d (by omega) (by omega) h3
  rcases Nat.lt_or_ge d 1853 with g | h1
  · exact chk_of 1803 50 chk_36 d (by omega) (by omega) h3
  rcases Nat.lt_or_ge d 1903 with g | h1
  · exact chk_of 1853 50 chk_37 d (by omega) (by omega) h3
  rcases Nat.lt_or_ge d 1953 with g | h1
  · exact chk_of 1903 50 chk_38 d (by omega) (by omega) h3
  exact chk_of 1953 48 chk_39 d (by omega) (by omega) h3
