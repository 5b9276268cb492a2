/-! A value that is prime to every number up to 500. -/
def wP : Nat := 73239622318952846593863874519042298829761338251289259046349190034596307420803713394327759819891326985268312606648408875713314013313623337094312440663659803352061415560955398316253892220738945585450197206138869521568000
theorem wP_ok : nall (fun i => Nat.beq (Nat.mod wP (Nat.succ i)) 0) 500 = true := by decide +kernel
theorem wP_dvd (m : Nat) (h1 : 1 ≤ m) (h2 : m ≤ 500) : m ∣ wP := by
  have e : Nat.beq (Nat.mod wP (Nat.succ (m - 1))) 0 = true := nall_e0 _ 500 wP_ok (m - 1) (by omega)
  have e := Nat.eq_of_beq_eq_true e
  rw [show Nat.succ (m - 1) = m by omega] at e
  exact Nat.dvd_of_mod_eq_zero e
noncomputable def wX (a t c y n : Nat) : Nat → Bool :=
  Nat.rec (motive := fun _ => Nat → Bool) (fun _ => false) (fun _ ih x => nst (valN a t c x y) fun v => cond (and (Nat.beq (Nat.gcd v wP) 1) (and (Nat.beq (Nat.gcd x y) 1) (Nat.ble v 99998))) true (nst (Nat.succ x) fun x => ih x)) n
noncomputable def wY (a t c : Nat) : Bool := cond (wX a t c 1 29 1) true (cond (wX a t c 2 29 1) true (cond (wX a t c 3 29 1) true (cond (wX a t c 4 29 1) true (cond (wX a t c 5 29 1) true (wX a t c 6 29 1)))))
noncomputable def chkW (d : Nat) : Bool := lall (fun e => nst (aN e) fun a => nst (tN e) fun t => nst (cN e) fun c => wY a t c) (asN d 1 26)
noncomputable def chkV (d n : Nat) : Bool := nall (fun i => nst (Nat.add d i) fun d => cond (or (Nat.beq (Nat.mod d 4) 0) (Nat.beq (Nat.mod d 4) 3)) (chkW d) true) n
set_option maxRecDepth 100000 in
theorem chv_0 : chkV 3 100 = true := by decide +kernel
set_option maxRecDepth 100000 in
theorem chv_1 : chkV 103 100 = true := by decide +kernel
set_option maxRecDepth 100000 in
theorem chv_2 : chkV 203 100 = true := by decide +kernel
set_option maxRecDepth 100000 in
theorem chv_3 : chkV 303 100 = true := by decide +kernel
set_option maxRecDepth 100000 in
theorem chv_4 : chkV 403 100 = true := by decide +kernel
set_option maxRecDepth 100000 in
theorem chv_5 : chkV 503 100 = true := by decide +kernel
set_option maxRecDepth 100000 in
theorem chv_6 : chkV 603 100 = true := by decide +kernel
set_option maxRecDepth 100000 in
theorem chv_7 : chkV 703 100 = true := by decide +kernel
set_option maxRecDepth 100000 in
theorem chv_8 : chkV 803 100 = true := by decide +kernel
set_option maxRecDepth 100000 in
theorem chv_9 : chkV 903 100 = true := by decide +kernel
set_option maxRecDepth 100000 in
theorem chv_10 : chkV 1003 100 = true := by decide +kernel
set_option maxRecDepth 100000 in
theorem chv_11 : chkV 1103 100 = true := by decide +kernel
set_option maxRecDepth 100000 in
theorem chv_12 : chkV 1203 100 = true := by decide +kernel
set_option maxRecDepth 100000 in
theorem chv_13 : chkV 1303 100 = true := by decide +kernel
set_option maxRecDepth 100000 in
theorem chv_14 : chkV 1403 100 = true := by decide +kernel
set_option maxRecDepth 100000 in
theorem chv_15 : chkV 1503 100 = true := by decide +kernel
set_option maxRecDepth 100000 in
theorem chv_16 : chkV 1603 100 = true := by decide +kernel
set_option maxRecDepth 100000 in
theorem chv_17 : chkV 1703 100 = true := by decide +kernel
set_option maxRecDepth 100000 in
theorem chv_18 : chkV 1803 100 = true := by decide +kernel
set_option maxRecDepth 100000 in
theorem chv_19 : chkV 1903 98 = true := by decide +kernel
theorem chv_of (d0 n : Nat) (h : chkV d0 n = true) (d : Nat) (h1 : d0 ≤ d) (h2 : d < d0 + n) (h3 : d % 4 = 0 ∨ d % 4 = 3) : chkW d = true := by
  have e : nst (Nat.add d0 (d - d0)) (fun d => cond (or (Nat.beq (Nat.mod d 4) 0) (Nat.beq (Nat.mod d 4) 3)) (chkW d) true) = true := nall_e0 _ n h (d - d0) (by omega)
  rw [nst_e0, show Nat.add d0 (d - d0) = d by show d0 + (d - d0) = d; omega] at e
  have g : or (Nat.beq (Nat.mod d 4) 0) (Nat.beq (Nat.mod d 4) 3) = true := by
    rcases h3 with g | g
    · rw [show Nat.mod d 4 = 0 from g]; rfl
    · rw [show Nat.mod d 4 = 3 from g]; rfl
  rw [g] at e
  exact e
theorem chv_all (d : Nat) (h1 : 3 ≤ d) (h2 : d ≤ 2000) (h3 : d % 4 = 0 ∨ d % 4 = 3) : chkW d = true := by
  rcases Nat.lt_or_ge d 103 with g | h1
  · exact chv_of 3 100 chv_0 d (by omega) (by omega) h3
  rcases Nat.lt_or_ge d 203 with g | h1
  · exact chv_of 103 100 chv_1 d (by omega) (by omega) h3
  rcases Nat.lt_or_ge d 303 with g | h1
  · exact chv_of 203 100 chv_2 d (by omega) (by omega) h3
  rcases Nat.lt_or_ge d 403 with g | h1
  · exact chv_of 303 100 chv_3 d (by omega) (by omega) h3
  rcases Nat.lt_or_ge d 503 with g | h1
  · exact chv_of 403 100 chv_4 d (by omega) (by omega) h3
  rcases Nat.lt_or_ge d 603 with g | h1
  · exact chv_of 503 100 chv_5 d (by omega) (by omega) h3
  rcases Nat.lt_or_ge d 703 with g | h1
  · exact chv_of 603 100 chv_6 d (by omega) (by omega) h3
  rcases Nat.lt_or_ge d 803 with g | h1
  · exact chv_of 703 100 chv_7 d (by omega) (by omega) h3
  rcases Nat.lt_or_ge d 903 with g | h1
  · exact chv_of 803 100 chv_8 d (by omega) (by omega) h3
  rcases Nat.lt_or_ge d 1003 with g | h1
  · exact chv_of 903 100 chv_9 d (by omega) (by omega) h3
  rcases Nat.lt_or_ge d 1103 with g | h1
  · exact chv_of 1003 100 chv_10 d (by omega) (by omega) h3
  rcases Nat.lt_or_ge d 1203 with g | h1
  · exact chv_of 1103 100 chv_11 d (by omega) (by omega) h3
  rcases Nat.lt_or_ge d 1303 with g | h1
  · exact chv_of 1203 100 chv_12 d (by omega) (by omega) h3
  rcases Nat.lt_or_ge d 1403 with g | h1
  · exact chv_of 1303 100 chv_13 d (by omega) (by omega) h3
  rcases Nat.lt_or_ge d 1503 with g | h1
  · exact chv_of 1403 100 chv_14 d (by omega) (by omega) h3
  rcases Nat.lt_or_ge d 1603 with g | h1
  · exact chv_of 1503 100 chv_15 d (by omega) (by omega) h3
  rcases Nat.lt_or_ge d 1703 with g | h1
  · exact chv_of 1603 100 chv_16 d (by omega) (by omega) h3
  rcases Nat.lt_or_ge d 1803 with g | h1
  · exact chv_of 1703 100 chv_17 d (by omega) (by omega) h3
  rcases Nat.lt_or_ge d 1903 with g | h1
  · exact chv_of 1803 100 chv_18 d (by omega) (by omega) h3
  exact chv_of 1903 98 chv_19 d (by omega) (by omega) h3
