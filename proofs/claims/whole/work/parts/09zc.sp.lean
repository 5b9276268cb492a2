/-! What the plain numbers say. -/
theorem nst_eq {β : Type} (x : Nat) (k : Nat → β) : nst x k = k x := by cases x <;> rfl
theorem lmap_eq {α β : Type} (f : α → β) (l : List α) : lmap f l = l.map f := by
  induction l with
  | nil => rfl
  | cons x l ih => show f x :: lmap f l = _; rw [ih]; rfl
theorem llen_eq {α : Type} (l : List α) : llen l = l.length := by
  induction l with
  | nil => rfl
  | cons x l ih => show Nat.succ (llen l) = _; rw [ih]; rfl
theorem lapp_eq {α : Type} (l m : List α) : lapp l m = l ++ m := by
  induction l with
  | nil => rfl
  | cons x l ih => show x :: lapp l m = _; rw [ih]; rfl
theorem lnth_eq {α : Type} (d : α) (l : List α) : ∀ i, lnth d l i = l.getD i d := by
  induction l with
  | nil => intro i; rfl
  | cons x l ih =>
    intro i
    cases i with
    | zero => rfl
    | succ i => show lnth d l i = _; rw [ih]; rfl
theorem lidx_le (key : Nat) (l : List Nat) : lidx key l ≤ l.length := by
  induction l with
  | nil => exact Nat.le_refl 0
  | cons x l ih =>
    show cond (Nat.beq x key) 0 (Nat.succ (lidx key l)) ≤ l.length + 1
    cases Nat.beq x key
    · exact Nat.succ_le_succ ih
    · exact Nat.zero_le _
theorem lidx_at (key : Nat) (l : List Nat) (h : lidx key l < l.length) : l.getD (lidx key l) 0 = key := by
  induction l with
  | nil => exact absurd h (Nat.not_lt_zero _)
  | cons x l ih =>
    have e : lidx key (x :: l) = cond (Nat.beq x key) 0 (Nat.succ (lidx key l)) := rfl
    rw [e] at h ⊢
    cases hb : Nat.beq x key
    · rw [hb] at h
      show l.getD (lidx key l) 0 = key
      exact ih (Nat.lt_of_succ_lt_succ h)
    · exact Nat.eq_of_beq_eq_true hb
theorem lidx_bef (key : Nat) (l : List Nat) : ∀ j, j < lidx key l → l.getD j 0 ≠ key := by
  induction l with
  | nil => intro j h; exact absurd h (Nat.not_lt_zero _)
  | cons x l ih =>
    intro j h
    have e : lidx key (x :: l) = cond (Nat.beq x key) 0 (Nat.succ (lidx key l)) := rfl
    rw [e] at h
    cases hb : Nat.beq x key
    · rw [hb] at h
      cases j with
      | zero => exact Nat.ne_of_beq_eq_false hb
      | succ j => exact ih j (Nat.lt_of_succ_lt_succ h)
    · rw [hb] at h; exact absurd h (Nat.not_lt_zero _)
theorem nall_eq (f : Nat → Bool) (n : Nat) (h : nall f n = true) : ∀ i, i < n → f i = true := by
  induction n with
  | zero => intro i hi; omega
  | succ n ih =>
    intro i hi
    have e : nall f (n + 1) = cond (f n) (nall f n) false := rfl
    rw [e] at h
    cases hf : f n
    · rw [hf] at h; cases h
    · rw [hf] at h
      rcases Nat.lt_or_ge i n with g | g
      · exact ih h i g
      · obtain rfl : i = n := by omega
        exact hf
theorem c_true {a b : Bool} (h : cond a b false = true) : a = true ∧ b = true := by
  cases a
  · cases h
  · exact ⟨rfl, h⟩
/-- the rest of b modulo 2 * a -/
def tt (a b : Int) : Nat := (b % (2 * a)).toNat
theorem tt_cast (a b : Int) (ha : 0 < a) : (tt a b : Int) = b % (2 * a) := by
  unfold tt
  have := Int.emod_nonneg b (show 2 * a ≠ 0 by omega)
  omega
theorem tt_pos {a b : Int} (h0 : 0 ≤ b) (h1 : b ≤ a) (ha : 0 < a) : (tt a b : Int) = b := by
  rw [tt_cast a b ha]; exact Int.emod_eq_of_lt h0 (by omega)
theorem tt_neg {a b : Int} (h0 : b < 0) (h1 : -a ≤ b) (ha : 0 < a) : (tt a b : Int) = b + 2 * a := by
  rw [tt_cast a b ha, ← Int.add_emod_right]; exact Int.emod_eq_of_lt (by omega) (by omega)
theorem tt_shift (a b k : Int) : tt a (b + 2 * a * k) = tt a b := by
  unfold tt; rw [Int.add_mul_emod_self_left]
theorem rN_succ (d n a t m c : Nat) (hm : m = cond (Nat.ble t a) t (2 * a - t)) (hc : c = (m * m + d) / (4 * a)) : rN d (n + 1) a t = cond (Nat.ble a c) (cond (Nat.beq c a) (a * 64 + m) (a * 64 + t)) (rN d n c (cond (Nat.ble t a) ((2 * c - m % (2 * c)) % (2 * c)) (m % (2 * c)))) := by
  have e : rN d (n + 1) a t = nst (cond (Nat.ble t a) t (Nat.sub (Nat.mul 2 a) t)) (fun m => nst (Nat.div (Nat.add (Nat.mul m m) d) (Nat.mul 4 a)) fun c => cond (Nat.ble a c) (cond (Nat.beq c a) (Nat.add (Nat.mul a 64) m) (Nat.add (Nat.mul a 64) t)) (nst (cond (Nat.ble t a) (Nat.mod (Nat.sub (Nat.mul 2 c) (Nat.mod m (Nat.mul 2 c))) (Nat.mul 2 c)) (Nat.mod m (Nat.mul 2 c))) fun u => rN d n c u)) := rfl
  rw [e, nst_eq, nst_eq, nst_eq]
  subst hm
  subst hc
  rfl
/-- a form whose middle number is in its place -/
theorem rN_norm (d n : Nat) (a b c : Int) (ha : 0 < a) (h1 : -a < b) (h2 : b ≤ a) (hD : b * b - 4 * a * c = -(d : Int)) (hd : 0 < d) : rN d (n + 1) a.toNat (tt a b) = if a ≤ c then (if a = c then a.toNat * 64 + b.natAbs else a.toNat * 64 + tt a b) else rN d n c.toNat (tt c (-b)) := by
  have hc := rd_pos a b c ha (by omega)
  have hm : cond (Nat.ble (tt a b) a.toNat) (tt a b) (2 * a.toNat - tt a b) = b.natAbs := by
    rcases (show b < 0 ∨ 0 ≤ b by omega) with h | h
    · have e := tt_neg h (by omega) ha
      have : Nat.ble (tt a b) a.toNat = false := by
        rw [← Bool.not_eq_true, Nat.ble_eq]; omega
      rw [this]; show 2 * a.toNat - tt a b = _; omega
    · have e := tt_pos h h2 ha
      have : Nat.ble (tt a b) a.toNat = true := by rw [Nat.ble_eq]; omega
      rw [this]; show tt a b = _; omega
  have hdiv : (b.natAbs * b.natAbs + d) / (4 * a.toNat) = c.toNat := by
    have e : ((b.natAbs * b.natAbs + d : Nat) : Int) = ((4 * a.toNat * c.toNat : Nat) : Int) := by
      rw [Int.natCast_add, Int.natAbs_mul_self, Int.natCast_mul, Int.natCast_mul, Int.toNat_of_nonneg (by omega), Int.toNat_of_nonneg (by omega), show ((4 : Nat) : Int) = 4 from rfl]
      omega
    rw [Int.ofNat_inj.mp e]
    exact Nat.mul_div_cancel_left _ (by omega)
  rw [rN_succ d n a.toNat (tt a b) b.natAbs c.toNat hm.symm hdiv.symm]
  by_cases hac : a ≤ c
  · rw [if_pos hac, show Nat.ble a.toNat c.toNat = true by rw [Nat.ble_eq]; omega]
    show cond (Nat.beq c.toNat a.toNat) _ _ = _
    by_cases he : a = c
    · rw [if_pos he, show Nat.beq c.toNat a.toNat = true by rw [he]; exact Nat.beq_refl _]; rfl
    · rw [if_neg he, show Nat.beq c.toNat a.toNat = false by rw [← Bool.not_eq_true, Nat.beq_eq]; omega]; rfl
  · rw [if_neg hac, show Nat.ble a.toNat c.toNat = false by rw [← Bool.not_eq_true, Nat.ble_eq]; omega]
    show rN d n c.toNat _ = _
    congr 1
    have ec := tt_cast c (-b) hc
    rcases (show b < 0 ∨ 0 ≤ b by omega) with h | h
    · have e := tt_neg h (by omega) ha
      rw [show Nat.ble (tt a b) a.toNat = false by rw [← Bool.not_eq_true, Nat.ble_eq]; omega]
      show b.natAbs % (2 * c.toNat) = _
      apply Int.ofNat_inj.mp
      rw [ec, Int.natCast_emod, show ((2 * c.toNat : Nat) : Int) = 2 * c by omega, show (b.natAbs : Int) = -b by omega]
    · have e := tt_pos h h2 ha
      rw [show Nat.ble (tt a b) a.toNat = true by rw [Nat.ble_eq]; omega]
      show (2 * c.toNat - b.natAbs % (2 * c.toNat)) % (2 * c.toNat) = _
      apply Int.ofNat_inj.mp
      have hlt := Nat.mod_lt b.natAbs (show 0 < 2 * c.toNat by omega)
      rw [ec, Int.natCast_emod, Int.natCast_sub (by omega), Int.natCast_emod, show ((2 * c.toNat : Nat) : Int) = 2 * c by omega, show (b.natAbs : Int) = b by omega]
      have e1 := Int.mul_ediv_add_emod b (2 * c)
      have e2 : (2 * c) * (-(b / (2 * c)) - 1) = -(2 * c * (b / (2 * c))) - 2 * c := by rw [Int.mul_sub, Int.mul_neg, Int.mul_one]
      rw [show -b = (2 * c - b % (2 * c)) + (2 * c) * (-(b / (2 * c)) - 1) by omega, Int.add_mul_emod_self_left]
theorem rd_rN (d : Nat) (hd : 0 < d) (x y z : Int) (n : Nat) : ∀ (a b c : Int) (N : Nat), rd_T n a b c x y z → 0 < a → b * b - 4 * a * c = -(d : Int) → n < N → rN d N a.toNat (tt a b) = x.toNat * 64 + tt x y := by
  induction n with
  | zero =>
    intro a b c N hT ha hD hN
    obtain ⟨hd', rfl, rfl, rfl⟩ := hT
    obtain ⟨N, rfl⟩ : ∃ m, N = m + 1 := ⟨N - 1, by omega⟩
    unfold rd_done at hd'
    rw [rN_norm d N x y z ha (by omega) (by omega) hD hd, if_pos (by omega)]
    by_cases he : x = z
    · rw [if_pos he]
      have := tt_pos (show 0 ≤ y by omega) (show y ≤ x by omega) ha
      omega
    · rw [if_neg he]
  | succ n ih =>
    intro a b c N hT ha hD hN
    obtain ⟨hd', hT⟩ := hT
    have hc := rd_pos a b c ha (by omega)
    rcases hT with ⟨hs, k, ⟨hk1, hk2⟩, hT⟩ | ⟨hs, hT⟩
    · obtain ⟨g1, g2⟩ := rd_shift a b c k ha hs hk1 hk2
      have := ih a (b + 2 * a * k) ((a * k + b) * k + c) N hT ha (by omega) (by omega)
      rw [tt_shift] at this
      exact this
    · unfold rd_sh at hs
      obtain ⟨N, rfl⟩ : ∃ m, N = m + 1 := ⟨N - 1, by omega⟩
      rw [rN_norm d N a b c ha (by omega) (by omega) hD hd]
      by_cases hac : a ≤ c
      · rw [if_pos hac]
        have hac2 : a = c := by unfold rd_done at hd'; omega
        subst hac2
        rw [if_pos rfl]
        have hb : b < 0 := by unfold rd_done at hd'; omega
        cases n with
        | zero =>
          obtain ⟨_, e1, e2, _⟩ := hT
          rw [e1, e2]
          have := tt_pos (show 0 ≤ -b by omega) (show -b ≤ a by omega) ha
          omega
        | succ n => exact absurd (show rd_done a (-b) a by unfold rd_done; omega) hT.1
      · rw [if_neg hac]
        exact ih c (-b) a N hT hc (by grind) (by omega)
