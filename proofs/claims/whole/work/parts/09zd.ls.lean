/-! The list as plain numbers. -/
def enc (t : Int × Int × Int) : Nat := (t.1.toNat * 64 + tt t.1 t.2.1) * 1024 + t.2.2.toNat
theorem rowN_eq (D : Int) (d : Nat) (hd : (d : Int) = -D) (a m : Nat) (ha : 0 < a) (hm : m ≤ a) : rowN d a m = (pu_row D a m).map enc := by
  unfold rowN pu_row
  rw [nst_eq, nst_eq]
  show cond (Nat.beq ((m * m + d) % (4 * a)) 0) (cond (and (Nat.ble a ((m * m + d) / (4 * a))) (Nat.beq (Nat.gcd (Nat.gcd a m) ((m * m + d) / (4 * a))) 1)) (((a * 64 + m) * 1024 + (m * m + d) / (4 * a)) :: cond (or (Nat.beq m 0) (or (Nat.beq m a) (Nat.beq a ((m * m + d) / (4 * a))))) [] [(a * 64 + (2 * a - m)) * 1024 + (m * m + d) / (4 * a)]) []) [] = _
  have e : (m : Int) * m - D = ((m * m + d : Nat) : Int) := by rw [Int.natCast_add, Int.natCast_mul]; omega
  have e1 : ((m * m + d : Nat) : Int) % (4 * (a : Int)) = (((m * m + d) % (4 * a) : Nat) : Int) := by rw [Int.natCast_emod, Int.natCast_mul]; rfl
  have e2 : ((m * m + d : Nat) : Int) / (4 * (a : Int)) = (((m * m + d) / (4 * a) : Nat) : Int) := by rw [Int.natCast_ediv, Int.natCast_mul]; rfl
  rw [e, e1, e2]
  generalize (m * m + d) % (4 * a) = rm
  generalize (m * m + d) / (4 * a) = c
  have t1 : enc ((a : Int), (m : Int), (c : Int)) = (a * 64 + m) * 1024 + c := by
    unfold enc
    have := tt_pos (a := (a : Int)) (b := (m : Int)) (by omega) (by omega) (by omega)
    show ((a : Int).toNat * 64 + tt a m) * 1024 + (c : Int).toNat = _
    rw [show tt (a : Int) (m : Int) = m by omega]; omega
  by_cases h1 : rm = 0
  · rw [show Nat.beq rm 0 = true by rw [h1]; rfl, show ((Int.natAbs (c : Int))) = c from rfl]
    show cond (and (Nat.ble a c) (Nat.beq (Nat.gcd (Nat.gcd a m) c) 1)) _ _ = _
    by_cases h2 : a ≤ c
    · by_cases h3 : Nat.gcd (Nat.gcd a m) c = 1
      · rw [show Nat.ble a c = true by rw [Nat.ble_eq]; omega, show Nat.beq (Nat.gcd (Nat.gcd a m) c) 1 = true by rw [h3]; rfl, if_pos ⟨⟨by omega, by omega⟩, h3⟩, List.map_cons, t1]
        show _ :: _ = _
        congr 1
        by_cases h4 : m = 0 ∨ m = a ∨ (a : Int) = c
        · rw [if_pos h4, show (or (Nat.beq m 0) (or (Nat.beq m a) (Nat.beq a c))) = true by
            rcases h4 with h | h | h
            · rw [show Nat.beq m 0 = true by rw [h]; rfl]; rfl
            · rw [show Nat.beq m a = true by rw [h]; exact Nat.beq_refl a]; cases Nat.beq m 0 <;> rfl
            · rw [show Nat.beq a c = true by rw [show a = c by omega]; exact Nat.beq_refl c]; cases Nat.beq m 0 <;> cases Nat.beq m a <;> rfl]
          rfl
        · rw [if_neg h4, show Nat.beq m 0 = false by rw [← Bool.not_eq_true, Nat.beq_eq]; omega, show Nat.beq m a = false by rw [← Bool.not_eq_true, Nat.beq_eq]; omega, show Nat.beq a c = false by rw [← Bool.not_eq_true, Nat.beq_eq]; omega]
          have t2 : enc ((a : Int), -(m : Int), (c : Int)) = (a * 64 + (2 * a - m)) * 1024 + c := by
            unfold enc
            have := tt_neg (a := (a : Int)) (b := -(m : Int)) (by omega) (by omega) (by omega)
            show ((a : Int).toNat * 64 + tt a (-(m : Int))) * 1024 + (c : Int).toNat = _
            rw [show tt (a : Int) (-(m : Int)) = 2 * a - m by omega]; omega
          show [(a * 64 + (2 * a - m)) * 1024 + c] = [enc ((a : Int), -(m : Int), (c : Int))]
          rw [t2]
      · rw [show Nat.beq (Nat.gcd (Nat.gcd a m) c) 1 = false by rw [← Bool.not_eq_true, Nat.beq_eq]; exact h3, if_neg (fun h => h3 h.2)]
        cases Nat.ble a c <;> rfl
    · rw [show Nat.ble a c = false by rw [← Bool.not_eq_true, Nat.ble_eq]; omega, if_neg (by omega)]; rfl
  · rw [show Nat.beq rm 0 = false by rw [← Bool.not_eq_true, Nat.beq_eq]; exact h1, if_neg (by omega)]; rfl
theorem msN_eq (D : Int) (d : Nat) (hd : (d : Int) = -D) (a : Nat) (ha : 0 < a) (n : Nat) : ∀ m, m + n ≤ a + 1 → msN d a m n = (pu_ms D a m n).map enc := by
  induction n with
  | zero => intro m _; rfl
  | succ n ih =>
    intro m hm
    show lapp (rowN d a m) (msN d a (m + 1) n) = _
    rw [lapp_eq, rowN_eq D d hd a m ha (by omega), ih (m + 1) (by omega), pu_ms_succ, List.map_append]
theorem asN_eq (D : Int) (d : Nat) (hd : (d : Int) = -D) (n : Nat) : ∀ a, 0 < a → asN d a n = (pu_as D a n).map enc := by
  induction n with
  | zero => intro a _; rfl
  | succ n ih =>
    intro a ha
    show cond (Nat.ble (3 * (a * a)) d) (lapp (msN d a 0 (a + 1)) (asN d (a + 1) n)) [] = _
    by_cases h : 3 * (a * a) ≤ d
    · rw [show Nat.ble (3 * (a * a)) d = true by rw [Nat.ble_eq]; exact h]
      show lapp (msN d a 0 (a + 1)) (asN d (a + 1) n) = _
      rw [lapp_eq, msN_eq D d hd a ha (a + 1) 0 (by omega), ih (a + 1) (by omega), pu_as_succ, List.map_append]
    · rw [show Nat.ble (3 * (a * a)) d = false by rw [← Bool.not_eq_true, Nat.ble_eq]; exact h, pu_as_nil D (n + 1) a ha (by rw [Int.mul_assoc, ← Int.natCast_mul]; omega)]; rfl
/-- the table of D -/
noncomputable def gL (D : Int) : List Nat := asN (-D).toNat 1 26
noncomputable def gK (D : Int) : List Nat := lmap keyN (gL D)
noncomputable def gTab (D : Int) : List (List Nat) := tabN (-D).toNat (gL D) (gK D)
noncomputable def gT (D : Int) (j k : Nat) : Nat := atN (gTab D) j k
theorem gL_eq (D : Int) (hD : pu_ok D) : gL D = (pu_list D).map enc := by
  unfold pu_ok at hD
  unfold gL
  rw [asN_eq D (-D).toNat (by omega) 26 1 (by omega), pu_as_eq]
theorem gL_at (D : Int) (hD : pu_ok D) (i : Nat) (h : i < (pu_list D).length) : (gL D).getD i 0 = enc (pu_at D i) := by
  rw [gL_eq D hD, List.getD_eq_getElem?_getD, List.getElem?_map, pu_at_eq D i h, List.getElem?_eq_getElem h]; rfl
theorem enc_p (D : Int) (hD : pu_ok D) (i : Nat) (h : i < (pu_list D).length) : aN (enc (pu_at D i)) = (pu_at D i).1.toNat ∧ tN (enc (pu_at D i)) = tt (pu_at D i).1 (pu_at D i).2.1 ∧ cN (enc (pu_at D i)) = (pu_at D i).2.2.toNat ∧ keyN (enc (pu_at D i)) = (pu_at D i).1.toNat * 64 + tt (pu_at D i).1 (pu_at D i).2.1 ∧ tt (pu_at D i).1 (pu_at D i).2.1 < 64 := by
  have sz := pu_at_sz D hD i h
  have h1 := tt_cast (pu_at D i).1 (pu_at D i).2.1 sz.1
  have h2 := Int.emod_lt_of_pos (pu_at D i).2.1 (show 0 < 2 * (pu_at D i).1 by omega)
  unfold enc aN tN cN keyN
  generalize tt (pu_at D i).1 (pu_at D i).2.1 = t at *
  show ((((pu_at D i).1.toNat * 64 + t) * 1024 + (pu_at D i).2.2.toNat) / 65536 = _) ∧ ((((pu_at D i).1.toNat * 64 + t) * 1024 + (pu_at D i).2.2.toNat) / 1024 % 64 = _) ∧ ((((pu_at D i).1.toNat * 64 + t) * 1024 + (pu_at D i).2.2.toNat) % 1024 = _) ∧ ((((pu_at D i).1.toNat * 64 + t) * 1024 + (pu_at D i).2.2.toNat) / 1024 = _) ∧ _
  omega
theorem gK_at (D : Int) (hD : pu_ok D) (i : Nat) (h : i < (pu_list D).length) : (gK D).getD i 0 = (pu_at D i).1.toNat * 64 + tt (pu_at D i).1 (pu_at D i).2.1 := by
  have e := enc_p D hD i h
  unfold gK
  rw [lmap_eq, gL_eq D hD, List.map_map, List.getD_eq_getElem?_getD, List.getElem?_map, List.getElem?_eq_getElem h]
  show keyN (enc (pu_list D)[i]) = _
  rw [← pu_at_eq D i h, e.2.2.2.1]
theorem gK_len (D : Int) (hD : pu_ok D) : (gK D).length = (pu_list D).length := by
  unfold gK; rw [lmap_eq, gL_eq D hD, List.length_map, List.length_map]
theorem gT_eq (D : Int) (hD : pu_ok D) (j k : Nat) (hj : j < (pu_list D).length) (hk : k < (pu_list D).length) : gT D j k = entN (-D).toNat (gK D) (enc (pu_at D j)) (enc (pu_at D k)) := by
  have hrow : (gTab D).getD j [] = (gL D).map (fun e2 => entN (-D).toNat (gK D) (enc (pu_at D j)) e2) := by
    unfold gTab tabN
    rw [lmap_eq, List.getD_eq_getElem?_getD, List.getElem?_map, gL_eq D hD, List.getElem?_map, List.getElem?_eq_getElem hj, pu_at_eq D j hj]
    show lmap _ _ = _
    rw [lmap_eq]
  unfold gT atN
  rw [lnth_eq, lnth_eq, hrow, List.getD_eq_getElem?_getD, List.getElem?_map, gL_eq D hD, List.getElem?_map, List.getElem?_eq_getElem hk, pu_at_eq D k hk]
  rfl
/-- what the evaluation says of D -/
theorem g_facts (D : Int) (hD : pu_ok D) (h40 : (pu_list D).length ≤ 40) :
    (∀ j k, j < (pu_list D).length → k < (pu_list D).length → gT D j k < (pu_list D).length) ∧
    (∀ k, k < (pu_list D).length → gT D 0 k = k ∧ gT D k 0 = k) ∧
    (∀ k, k < (pu_list D).length → lidx 0 (lnth [] (gTab D) k) = oppN (gK D) (pu_list D).length k (enc (pu_at D k))) ∧
    (∀ k, k < (pu_list D).length → ordN (gTab D) k (pu_list D).length k 1 ≠ 0 ∧ (pu_list D).length % ordN (gTab D) k (pu_list D).length k 1 = 0) ∧
    (cntN (fun j => Nat.blt (lidx j (lmap (fun k => gT D k k) (msN1 (pu_list D).length))) (pu_list D).length) (pu_list D).length ≠ 0 ∧ (pu_list D).length / cntN (fun j => Nat.blt (lidx j (lmap (fun k => gT D k k) (msN1 (pu_list D).length))) (pu_list D).length) (pu_list D).length = cntN (fun k => Nat.beq (oppN (gK D) (pu_list D).length k (lnth 0 (gL D) k)) k) (pu_list D).length) := by
  have hD' := hD
  unfold pu_ok at hD'
  have hc := chk_all (-D).toNat (by omega) (by omega) (by omega)
  unfold chkD at hc
  have hlen : llen (gL D) = (pu_list D).length := by rw [llen_eq, gL_eq D hD, List.length_map]
  have hc : nst (llen (gL D)) (fun h => cond (Nat.ble h 40) (chkT h (gL D) (gK D) (gTab D)) true) = true := hc
  rw [nst_eq, hlen, show Nat.ble (pu_list D).length 40 = true by rw [Nat.ble_eq]; exact h40] at hc
  have hc : chkT (pu_list D).length (gL D) (gK D) (gTab D) = true := hc
  unfold chkT at hc
  obtain ⟨c1, hc⟩ := c_true hc
  obtain ⟨c2, hc⟩ := c_true hc
  obtain ⟨c3, hc⟩ := c_true hc
  obtain ⟨c4, hc⟩ := c_true hc
  refine ⟨fun j k hj hk => ?_, fun k hk => ?_, fun k hk => ?_, fun k hk => ?_, ?_⟩
  · have := nall_eq _ _ (nall_eq _ _ c1 j hj) k hk
    exact Nat.lt_of_lt_of_le (Nat.lt_succ_self _) (Nat.le_of_ble_eq_true this)
  · obtain ⟨u, v⟩ := c_true (nall_eq _ _ c2 k hk)
    exact ⟨Nat.eq_of_beq_eq_true u, Nat.eq_of_beq_eq_true v⟩
  · have := nall_eq _ _ c3 k hk
    rw [lnth_eq 0 (gL D) k, gL_at D hD k hk] at this
    exact Nat.eq_of_beq_eq_true this
  · have := nall_eq _ _ c4 k hk
    rw [nst_eq] at this
    cases hb : Nat.beq (ordN (gTab D) k (pu_list D).length k 1) 0
    · rw [hb] at this
      exact ⟨Nat.ne_of_beq_eq_false hb, Nat.eq_of_beq_eq_true this⟩
    · rw [hb] at this; cases this
  · rw [nst_eq] at hc
    have hc : cond (Nat.beq (cntN (fun j => Nat.blt (lidx j (lmap (fun k => gT D k k) (msN1 (pu_list D).length))) (pu_list D).length) (pu_list D).length) 0) false (Nat.beq ((pu_list D).length / cntN (fun j => Nat.blt (lidx j (lmap (fun k => gT D k k) (msN1 (pu_list D).length))) (pu_list D).length) (pu_list D).length) (cntN (fun k => Nat.beq (oppN (gK D) (pu_list D).length k (lnth 0 (gL D) k)) k) (pu_list D).length)) = true := hc
    cases hb : Nat.beq (cntN (fun j => Nat.blt (lidx j (lmap (fun k => gT D k k) (msN1 (pu_list D).length))) (pu_list D).length) (pu_list D).length) 0
    · rw [hb] at hc
      exact ⟨Nat.ne_of_beq_eq_false hb, Nat.eq_of_beq_eq_true hc⟩
    · rw [hb] at hc; cases hc
/-- the products of both, as keys -/
theorem g_prod (D : Int) (hD : pu_ok D) (h40 : (pu_list D).length ≤ 40) (j k : Nat) (hj : j < (pu_list D).length) (hk : k < (pu_list D).length) :
    cpN (-D).toNat (pu_at D j).1.toNat (tt (pu_at D j).1 (pu_at D j).2.1) (pu_at D k).1.toNat (tt (pu_at D k).1 (pu_at D k).2.1) = (pu_at D (gT D j k)).1.toNat * 64 + tt (pu_at D (gT D j k)).1 (pu_at D (gT D j k)).2.1 ∧
    rpN (-D).toNat (pu_at D j).1.toNat (tt (pu_at D j).1 (pu_at D j).2.1) (pu_at D k).1.toNat (tt (pu_at D k).1 (pu_at D k).2.1) (pu_at D k).2.2.toNat = (pu_at D (gT D j k)).1.toNat * 64 + tt (pu_at D (gT D j k)).1 (pu_at D (gT D j k)).2.1 := by
  have hlt := (g_facts D hD h40).1 j k hj hk
  have e := gT_eq D hD j k hj hk
  obtain ⟨j1, j2, j3, _, _⟩ := enc_p D hD j hj
  obtain ⟨k1, k2, k3, _, _⟩ := enc_p D hD k hk
  unfold entN at e
  rw [nst_eq, nst_eq, nst_eq, nst_eq, nst_eq, nst_eq, j1, j2, k1, k2, k3] at e
  generalize cpN (-D).toNat (pu_at D j).1.toNat (tt (pu_at D j).1 (pu_at D j).2.1) (pu_at D k).1.toNat (tt (pu_at D k).1 (pu_at D k).2.1) = X at *
  generalize rpN (-D).toNat (pu_at D j).1.toNat (tt (pu_at D j).1 (pu_at D j).2.1) (pu_at D k).1.toNat (tt (pu_at D k).1 (pu_at D k).2.1) (pu_at D k).2.2.toNat = Y at *
  cases hb : Nat.beq X Y
  · rw [hb] at e
    have e : gT D j k = 99 := e
    omega
  · rw [hb] at e
    have e : gT D j k = lidx X (gK D) := e
    have hxy : X = Y := Nat.eq_of_beq_eq_true hb
    have := lidx_at X (gK D) (by rw [← e, gK_len D hD]; exact hlt)
    rw [← e, gK_at D hD _ hlt] at this
    exact ⟨this.symm, by rw [← hxy]; exact this.symm⟩
/-- a key tells the form -/
theorem g_key (D : Int) (hD : pu_ok D) (i : Nat) (hi : i < (pu_list D).length) (x y z : Int) (hx : 0 < x) (hd : rd_done x y z) (hz : y * y - 4 * x * z = D) (h : x.toNat * 64 + tt x y = (pu_at D i).1.toNat * 64 + tt (pu_at D i).1 (pu_at D i).2.1) : (pu_at D i).1 = x ∧ (pu_at D i).2.1 = y ∧ (pu_at D i).2.2 = z := by
  have sz := pu_at_sz D hD i hi
  obtain ⟨_, _, _, _, e5⟩ := enc_p D hD i hi
  unfold pu_ok at hD
  have hd' := hd
  unfold rd_done at hd'
  have hx26 : x ≤ 26 := by
    by_cases hb : x ≤ 26
    · exact hb
    · have q1 := rd_sq x y hx (by omega) (by omega)
      have q2 : x * x ≤ x * z := Int.mul_le_mul_of_nonneg_left (by omega) (by omega)
      have q3 : 27 * 27 ≤ x * x := Int.mul_le_mul (by omega) (by omega) (by omega) (by omega)
      have q4 : 4 * x * z = 4 * (x * z) := Int.mul_assoc 4 x z
      omega
  have ht := tt_cast x y hx
  have ht2 := Int.emod_lt_of_pos y (show 0 < 2 * x by omega)
  have e1 : (pu_at D i).1 = x := by omega
  have sz7 := sz.2.2.2.2.2.2.1
  have sz8 := sz.2.2.2.2.2.2.2
  unfold rd_done at sz8
  have ha := sz.1
  generalize (pu_at D i).2.1 = b at *
  generalize (pu_at D i).2.2 = c at *
  rw [e1] at *
  have e2 : tt x b = tt x y := by omega
  have e3 : b = y := by
    have ht3 := tt_cast x b hx
    rcases (show b < 0 ∨ 0 ≤ b by omega) with hb | hb <;> rcases (show y < 0 ∨ 0 ≤ y by omega) with hy | hy
    · have := tt_neg hb (by omega) hx; have := tt_neg hy (by omega) hx; omega
    · have := tt_neg hb (by omega) hx; have := tt_pos hy (by omega) hx; omega
    · have := tt_pos hb (by omega) hx; have := tt_neg hy (by omega) hx; omega
    · have := tt_pos hb (by omega) hx; have := tt_pos hy (by omega) hx; omega
  refine ⟨rfl, e3, ?_⟩
  rw [e3] at sz7
  have h9 : 4 * x * c = 4 * x * z := by omega
  exact Int.eq_of_mul_eq_mul_left (by omega) h9
