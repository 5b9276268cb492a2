/-! The pure side: what the class and the reference hold alike. -/
/-- the discriminants of the desk -/
def pu_ok (D : Int) : Prop := -2000 ≤ D ∧ D ≤ -3 ∧ (D % 4 = 0 ∨ D % 4 = 1)
/-- the reduced forms with first number a and middle number m or -m -/
def pu_row (D : Int) (a m : Nat) : List (Int × Int × Int) :=
  if (((m : Int) * m - D) % (4 * a) = 0 ∧ (a : Int) ≤ ((m : Int) * m - D) / (4 * a)) ∧ Nat.gcd (Nat.gcd a m) (((m : Int) * m - D) / (4 * a)).natAbs = 1 then
    ((a : Int), (m : Int), ((m : Int) * m - D) / (4 * a)) :: (if m = 0 ∨ m = a ∨ (a : Int) = ((m : Int) * m - D) / (4 * a) then [] else [((a : Int), -(m : Int), ((m : Int) * m - D) / (4 * a))])
  else []
/-- all of them, in their order -/
def pu_list (D : Int) : List (Int × Int × Int) := (List.range 26).flatMap fun a => (List.range (a + 2)).flatMap fun m => pu_row D (a + 1) m
/-- both hold the list of D -/
def pu_RL (fa fb fc : Nat → Int32) (dd sz : Int32) (md mn : Int32) (la lb lc : Nat → Int64) : Prop :=
  ∃ D : Int, pu_ok D ∧ (pu_list D).length ≤ 40 ∧ dd = Int32.ofInt D ∧ md = Int32.ofInt D ∧ sz = Int32.ofNat (pu_list D).length ∧ mn = Int32.ofNat (pu_list D).length ∧
    ∀ i, i < (pu_list D).length → fa i = Int32.ofInt ((pu_list D).getD i (0, 0, 0)).1 ∧ fb i = Int32.ofInt ((pu_list D).getD i (0, 0, 0)).2.1 ∧ fc i = Int32.ofInt ((pu_list D).getD i (0, 0, 0)).2.2 ∧
      la i = Int64.ofInt ((pu_list D).getD i (0, 0, 0)).1 ∧ lb i = Int64.ofInt ((pu_list D).getD i (0, 0, 0)).2.1 ∧ lc i = Int64.ofInt ((pu_list D).getD i (0, 0, 0)).2.2
/-- both hold the form that was reduced last -/
def pu_RR (any : Int32) (ra rb rc rp rq rr rs rd : Int32) (sm : Int32) (last : Nat → Int64) : Prop :=
  (any = 0 ∧ sm = 0) ∨ (any = 1 ∧ sm = 1 ∧ ∃ a b c : Int, 0 < a ∧ a ≤ c ∧ -a ≤ b ∧ b ≤ a ∧ c < 2 ^ 30 ∧ 4 * a * c - b * b < 2 ^ 31 ∧ 0 < 4 * a * c - b * b ∧ ra = Int32.ofInt a ∧ rb = Int32.ofInt b ∧ rc = Int32.ofInt c ∧ rd = Int32.ofInt (b * b - 4 * a * c) ∧
    last 0 = Int64.ofInt a ∧ last 1 = Int64.ofInt b ∧ last 2 = Int64.ofInt c ∧ rp = (last 3).toInt32 ∧ rq = (last 4).toInt32 ∧ rr = (last 5).toInt32 ∧ rs = (last 6).toInt32)
/-- both hold the word -/
def pu_RW (row : Nat → Int32) (len : Int32) (let9 : Int32) (wd : Nat → Int32) : Prop :=
  ∃ n : Nat, n ≤ 40 ∧ len = Int32.ofNat n ∧ let9 = Int32.ofNat n ∧ ∀ i, i < n → ∃ k : Nat, row i = Int32.ofNat k ∧ wd i = Int32.ofNat k ∧ (k = 40 ∨ k = 41 ∨ (50 ≤ k ∧ k ≤ 57) ∨ (65 ≤ k ∧ k ≤ 90) ∨ (97 ≤ k ∧ k ≤ 122))
def pu_R (fa fb fc : Nat → Int32) (dd sz : Int32) (any ra rb rc rp rq rr rs rd : Int32) (row : Nat → Int32) (len : Int32) (md mn : Int32) (la lb lc : Nat → Int64) (sm : Int32) (last : Nat → Int64) (let9 : Int32) (wd : Nat → Int32) : Prop :=
  pu_RL fa fb fc dd sz md mn la lb lc ∧ pu_RR any ra rb rc rp rq rr rs rd sm last ∧ pu_RW row len let9 wd

