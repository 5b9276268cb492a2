/-! Sums over whole numbers; square roots; the values of a form lie in a box. -/
def sm (f : Int → Nat) : Int → Nat → Nat
  | _, 0 => 0
  | lo, n + 1 => f lo + sm f (lo + 1) n
theorem sm_s (f : Int → Nat) (lo : Int) (n : Nat) : sm f lo (n + 1) = f lo + sm f (lo + 1) n := rfl
theorem sm_0 (f : Int → Nat) (lo : Int) : sm f lo 0 = 0 := rfl
theorem sm_ext {f g : Int → Nat} (n : Nat) : ∀ lo : Int, (∀ i, lo ≤ i → i < lo + n → f i = g i) → sm f lo n = sm g lo n := by
  induction n with
  | zero => intro lo h; rfl
  | succ n ih => intro lo h; rw [sm_s, sm_s, h lo (by omega) (by omega), ih (lo + 1) (fun i h1 h2 => h i (by omega) (by omega))]
theorem sm_zero (n : Nat) : ∀ lo : Int, sm (fun _ => 0) lo n = 0 := by
  induction n with
  | zero => intro lo; rfl
  | succ n ih => intro lo; exact (Nat.zero_add _).trans (ih (lo + 1))
theorem sm_none (f : Int → Nat) (lo : Int) (n : Nat) (h : ∀ i, lo ≤ i → i < lo + n → f i = 0) : sm f lo n = 0 := by
  rw [sm_ext n lo h]; exact sm_zero n lo
theorem sm_add (f g : Int → Nat) (n : Nat) : ∀ lo : Int, sm (fun i => f i + g i) lo n = sm f lo n + sm g lo n := by
  induction n with
  | zero => intro lo; rfl
  | succ n ih => intro lo; rw [sm_s, sm_s, sm_s, ih]; omega
theorem sm_last (f : Int → Nat) (n : Nat) : ∀ lo : Int, sm f lo (n + 1) = sm f lo n + f (lo + n) := by
  induction n with
  | zero => intro lo; rw [sm_s, sm_0, sm_0, show lo + ((0 : Nat) : Int) = lo by omega]; omega
  | succ n ih => intro lo; rw [sm_s, ih (lo + 1), sm_s f lo n, show lo + 1 + (n : Int) = lo + ((n + 1 : Nat) : Int) by omega]; omega
theorem sm_swap (g : Int → Int → Nat) (l2 : Int) (n2 n1 : Nat) : ∀ l1 : Int, sm (fun x => sm (fun y => g x y) l2 n2) l1 n1 = sm (fun y => sm (fun x => g x y) l1 n1) l2 n2 := by
  induction n1 with
  | zero => intro l1; exact (sm_zero n2 l2).symm
  | succ n ih =>
    intro l1
    have e := ih (l1 + 1)
    have e2 := sm_add (fun y => g l1 y) (fun y => sm (fun x => g x y) (l1 + 1) n) n2 l2
    show sm (fun y => g l1 y) l2 n2 + sm (fun x => sm (fun y => g x y) l2 n2) (l1 + 1) n = sm (fun y => g l1 y + sm (fun x => g x y) (l1 + 1) n) l2 n2
    rw [e2, e]
theorem sm_one (f : Int → Nat) (x0 : Int) (h : ∀ i, i ≠ x0 → f i = 0) (n : Nat) : ∀ lo : Int, lo ≤ x0 → x0 < lo + n → sm f lo n = f x0 := by
  induction n with
  | zero => intro lo h1 h2; omega
  | succ n ih =>
    intro lo h1 h2
    rw [sm_s]
    by_cases e : lo = x0
    · subst e
      rw [sm_none f (lo + 1) n (fun i g1 g2 => h i (by omega))]; omega
    · rw [h lo e, ih (lo + 1) (by omega) (by omega)]; omega
theorem sm_neg (f : Int → Nat) (n : Nat) : ∀ lo : Int, sm (fun x => f (-x)) lo n = sm f (1 - lo - n) n := by
  induction n with
  | zero => intro lo; rfl
  | succ n ih =>
    intro lo
    rw [sm_s, ih (lo + 1), sm_last f n, show 1 - (lo + 1) - (n : Int) = 1 - lo - ((n + 1 : Nat) : Int) by omega, show 1 - lo - ((n + 1 : Nat) : Int) + (n : Int) = -lo by omega]
    omega
theorem sm_sym (f : Int → Nat) (h : ∀ i, f (-i) = f i) (Y : Nat) : sm f (-(Y : Int)) (2 * Y + 1) = f 0 + 2 * sm f 1 Y := by
  induction Y with
  | zero => rfl
  | succ Y ih =>
    rw [show 2 * (Y + 1) + 1 = (2 * Y + 1) + 1 + 1 by omega, sm_s, sm_last f (2 * Y + 1), show -((Y + 1 : Nat) : Int) + 1 = -(Y : Int) by omega, ih, h, sm_last f Y, show -(Y : Int) + ((2 * Y + 1 : Nat) : Int) = ((Y + 1 : Nat) : Int) by omega, show (1 : Int) + (Y : Int) = ((Y + 1 : Nat) : Int) by omega]
    omega
theorem sm_pos (f : Int → Nat) (n : Nat) : ∀ lo : Int, 0 < sm f lo n ↔ ∃ i, lo ≤ i ∧ i < lo + n ∧ 0 < f i := by
  induction n with
  | zero => intro lo; rw [sm_0]; exact ⟨fun h => absurd h (Nat.lt_irrefl 0), fun ⟨i, h1, h2, _⟩ => by omega⟩
  | succ n ih =>
    intro lo
    rw [sm_s]
    constructor
    · intro h
      by_cases h0 : 0 < f lo
      · exact ⟨lo, by omega, by omega, h0⟩
      · obtain ⟨i, h1, h2, h3⟩ := (ih (lo + 1)).mp (by omega)
        exact ⟨i, by omega, by omega, h3⟩
    · intro ⟨i, h1, h2, h3⟩
      by_cases e : lo = i
      · subst e; omega
      · have := (ih (lo + 1)).mpr ⟨i, by omega, by omega, h3⟩
        omega
theorem sm_le (f : Int → Nat) (B : Nat) (h : ∀ i, f i ≤ B) (n : Nat) : ∀ lo : Int, sm f lo n ≤ n * B := by
  induction n with
  | zero => intro lo; rw [sm_0]; omega
  | succ n ih =>
    intro lo
    have h1 := h lo
    have h2 := ih (lo + 1)
    rw [sm_s, Nat.succ_mul]; omega
/-- square roots -/
theorem sq_key (s v : Int) (hs : 0 ≤ s) (hv : 0 ≤ v) (h1 : s * s ≤ v * v) (h2 : v * v < (s + 1) * (s + 1)) : v = s := by
  rcases (show v < s ∨ v = s ∨ s + 1 ≤ v by omega) with h | h | h
  · have := Int.mul_self_lt_mul_self hv h; omega
  · exact h
  · have := Int.mul_self_le_mul_self (show 0 ≤ s + 1 by omega) h; omega
theorem sq_two (u s : Int) (hs : 0 ≤ s) (h1 : s * s ≤ u * u) (h2 : u * u < (s + 1) * (s + 1)) : u = s ∨ u = -s := by
  rcases (show 0 ≤ u ∨ u < 0 by omega) with h | h
  · left; exact sq_key s u hs h h1 h2
  · right
    have e : -u * -u = u * u := Int.neg_mul_neg u u
    have := sq_key s (-u) hs (by omega) (by omega) (by omega)
    omega
theorem sq_nn (u : Int) : 0 ≤ u * u := by
  rcases (show 0 ≤ u ∨ u < 0 by omega) with h | h
  · exact Int.mul_nonneg h h
  · have := Int.mul_nonneg (show 0 ≤ -u by omega) (show 0 ≤ -u by omega)
    rw [Int.neg_mul_neg] at this; exact this
theorem in_box (e D : Int) (hD : D < 0) (X : Nat) (hX : e < -D * ((X + 1 : Int) * (X + 1))) (x w : Int) (h : w * w - D * (x * x) = e) : -(X : Int) ≤ x ∧ x ≤ X := by
  have hw := sq_nn w
  have hlt : x * x < (X + 1 : Int) * (X + 1) := by
    rcases Int.lt_or_le (x * x) ((X + 1 : Int) * (X + 1)) with g | g
    · exact g
    · have := Int.mul_le_mul_of_nonneg_left g (show 0 ≤ -D by omega)
      have e2 : -D * (x * x) = -(D * (x * x)) := Int.neg_mul _ _
      omega
  constructor
  · rcases (show -(X : Int) ≤ x ∨ (X + 1 : Int) ≤ -x by omega) with g | g
    · exact g
    · have := Int.mul_self_le_mul_self (show 0 ≤ (X + 1 : Int) by omega) g
      rw [Int.neg_mul_neg] at this; omega
  · rcases (show x ≤ (X : Int) ∨ (X + 1 : Int) ≤ x by omega) with g | g
    · exact g
    · have := Int.mul_self_le_mul_self (show 0 ≤ (X + 1 : Int) by omega) g
      omega
/-- the value at (x, y) -/
def vf (a b c x y : Int) : Int := a * x * x + b * x * y + c * y * y
theorem vf_u (a b c x y D : Int) (hD : b * b - 4 * a * c = D) : (2 * a * x + b * y) * (2 * a * x + b * y) - D * (y * y) = 4 * a * vf a b c x y := by
  unfold vf; subst hD; grind
theorem vf_w (a b c x y D : Int) (hD : b * b - 4 * a * c = D) : (2 * c * y + b * x) * (2 * c * y + b * x) - D * (x * x) = 4 * c * vf a b c x y := by
  unfold vf; subst hD; grind
theorem vf_neg (a b c x y : Int) : vf a b c (-x) (-y) = vf a b c x y := by unfold vf; grind
theorem vf_box (a b c n x y D : Int) (X Y : Nat) (hD : b * b - 4 * a * c = D) (hD0 : D < 0) (hX : 4 * c * n < -D * ((X + 1 : Int) * (X + 1))) (hY : 4 * a * n < -D * ((Y + 1 : Int) * (Y + 1))) (h : vf a b c x y = n) : -(X : Int) ≤ x ∧ x ≤ X ∧ -(Y : Int) ≤ y ∧ y ≤ Y := by
  obtain ⟨h1, h2⟩ := in_box (4 * c * n) D hD0 X hX x (2 * c * y + b * x) (by rw [vf_w a b c x y D hD, h])
  obtain ⟨h3, h4⟩ := in_box (4 * a * n) D hD0 Y hY y (2 * a * x + b * y) (by rw [vf_u a b c x y D hD, h])
  exact ⟨h1, h2, h3, h4⟩
theorem root_go (q f B2 B B' : Int) (N : Nat) (hq1 : 0 ≤ q) (hq2 : q < 1073741824) (hf : 0 ≤ f) (hB2 : B2 = 2 * B) (hf2 : f + B2 ≤ 32768) (hB : 0 < B) (hs : zi B >>> ((1 : Int32) &&& 31) = zi B') (h1 : f * f ≤ q) (h2 : q < (f + B2) * (f + B2)) :
    ∃ r : Int, f_X3_root_L6 (zi q) (N + 1) (zi B) (zi f) = f_X3_root_L6 (zi q) N (zi B') (zi r) ∧ 0 ≤ r ∧ r + B ≤ 32768 ∧ r * r ≤ q ∧ q < (r + B) * (r + B) := by
  have hb : (f + B) * (f + B) ≤ 32768 * 32768 := Int.mul_self_le_mul_self (by omega) (by omega)
  have hb0 := sq_nn (f + B)
  have n0 : ¬ zi B ≤ 0 := by rw [zi0, zi_le (by omega) (by omega) (by omega) (by omega)]; omega
  by_cases h : q < (f + B) * (f + B)
  · refine ⟨f, ?_, hf, by omega, h1, h⟩
    rw [f_X3_root_L6, if_neg n0, e_let, zi_add, zi_mul, if_pos (by rw [zi_lt (by omega) (by omega) (by omega) (by omega)]; exact h), e_let, hs]
  · refine ⟨f + B, ?_, by omega, by omega, by omega, ?_⟩
    · rw [f_X3_root_L6, if_neg n0, e_let, zi_add, zi_mul, if_neg (by rw [zi_lt (by omega) (by omega) (by omega) (by omega)]; exact h), e_let, hs]
    · rw [show f + B + B = f + B2 by omega]; exact h2
theorem rootN (q : Int) (hq1 : 0 ≤ q) (hq2 : q < 1073741824) (M : Nat) (hM : 16 ≤ M) : ∃ s : Int, f_X3_root_L6 (zi q) M (zi 16384) (zi 0) = some (zi s) ∧ 0 ≤ s ∧ s + 1 ≤ 32768 ∧ s * s ≤ q ∧ q < (s + 1) * (s + 1) := by
  obtain ⟨N, rfl⟩ : ∃ m, M = m + 16 := ⟨M - 16, by omega⟩
  obtain ⟨r1, e1, a1, b1, c1, d1⟩ := root_go q 0 32768 16384 8192 (N + 15) hq1 hq2 (by omega) (by omega) (by omega) (by omega) (by decide) (by omega) (by omega)
  obtain ⟨r2, e2, a2, b2, c2, d2⟩ := root_go q r1 16384 8192 4096 (N + 14) hq1 hq2 a1 (by omega) b1 (by omega) (by decide) c1 d1
  obtain ⟨r3, e3, a3, b3, c3, d3⟩ := root_go q r2 8192 4096 2048 (N + 13) hq1 hq2 a2 (by omega) b2 (by omega) (by decide) c2 d2
  obtain ⟨r4, e4, a4, b4, c4, d4⟩ := root_go q r3 4096 2048 1024 (N + 12) hq1 hq2 a3 (by omega) b3 (by omega) (by decide) c3 d3
  obtain ⟨r5, e5, a5, b5, c5, d5⟩ := root_go q r4 2048 1024 512 (N + 11) hq1 hq2 a4 (by omega) b4 (by omega) (by decide) c4 d4
  obtain ⟨r6, e6, a6, b6, c6, d6⟩ := root_go q r5 1024 512 256 (N + 10) hq1 hq2 a5 (by omega) b5 (by omega) (by decide) c5 d5
  obtain ⟨r7, e7, a7, b7, c7, d7⟩ := root_go q r6 512 256 128 (N + 9) hq1 hq2 a6 (by omega) b6 (by omega) (by decide) c6 d6
  obtain ⟨r8, e8, a8, b8, c8, d8⟩ := root_go q r7 256 128 64 (N + 8) hq1 hq2 a7 (by omega) b7 (by omega) (by decide) c7 d7
  obtain ⟨r9, e9, a9, b9, c9, d9⟩ := root_go q r8 128 64 32 (N + 7) hq1 hq2 a8 (by omega) b8 (by omega) (by decide) c8 d8
  obtain ⟨r10, e10, a10, b10, c10, d10⟩ := root_go q r9 64 32 16 (N + 6) hq1 hq2 a9 (by omega) b9 (by omega) (by decide) c9 d9
  obtain ⟨r11, e11, a11, b11, c11, d11⟩ := root_go q r10 32 16 8 (N + 5) hq1 hq2 a10 (by omega) b10 (by omega) (by decide) c10 d10
  obtain ⟨r12, e12, a12, b12, c12, d12⟩ := root_go q r11 16 8 4 (N + 4) hq1 hq2 a11 (by omega) b11 (by omega) (by decide) c11 d11
  obtain ⟨r13, e13, a13, b13, c13, d13⟩ := root_go q r12 8 4 2 (N + 3) hq1 hq2 a12 (by omega) b12 (by omega) (by decide) c12 d12
  obtain ⟨r14, e14, a14, b14, c14, d14⟩ := root_go q r13 4 2 1 (N + 2) hq1 hq2 a13 (by omega) b13 (by omega) (by decide) c13 d13
  obtain ⟨r15, e15, a15, b15, c15, d15⟩ := root_go q r14 2 1 0 (N + 1) hq1 hq2 a14 (by omega) b14 (by omega) (by decide) c14 d14
  refine ⟨r15, ?_, a15, b15, c15, d15⟩
  rw [e1, e2, e3, e4, e5, e6, e7, e8, e9, e10, e11, e12, e13, e14, e15, f_X3_root_L6, if_pos (show zi 0 ≤ 0 by decide)]
theorem q_root (q : Int) (hq1 : 0 ≤ q) (hq2 : q < 1073741824) : ∃ s : Int, f_X3_root (zi q) = some (zi s) ∧ 0 ≤ s ∧ s + 1 ≤ 32768 ∧ s * s ≤ q ∧ q < (s + 1) * (s + 1) := by
  obtain ⟨s, h⟩ := rootN q hq1 hq2 100000 (by omega)
  exact ⟨s, h⟩
