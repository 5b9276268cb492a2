def f_X0_isPair (tfa : Nat → Int32) (p0 : Int32) (p1 : Int32) (p2 : Int32) (p3 : Int32) : Option (Int32) :=
  dm_g (¬ (p0 < 0 ∨ 40 ≤ (p0).toNatClampNeg)) <|
  dm_let ((2 : Int32) * (tfa (p0).toNatClampNeg)) fun x2 =>
  dm_b1 (f_X3_divides x2 p1) fun r3 =>
  if r3 = 0 then
    some (0 : Int32)
  else
    if p3 = 0 then
      some (1 : Int32)
    else
      dm_g (¬ x2 = 0) <|
      dm_b1 (f_X3_gcd (p1 / x2) p2) fun r8 =>
      if r8 = (1 : Int32) then
        some (1 : Int32)
      else
        some (0 : Int32)
set_option maxHeartbeats 4000000 in
set_option maxRecDepth 100000 in
theorem c_X0_isPair (l : Launch) (dC : Nat → ClassId) (dI : Nat → Nat → Nat) (cyI cyJ cyC : ClassId) (th tqa tqb tqc tzh : Nat) (sz : Nat) (tfa : Nat → Int32) (tfb : Nat → Int32) (tfc : Nat → Int32) (tdd : Int32) (tsz : Int32) (tzra : Int32) (tzrb : Int32) (tzrc : Int32) (tzrp : Int32) (tzrq : Int32) (tzrr : Int32) (tzrs : Int32) (tzrd : Int32) (p0 : Int32) (p1 : Int32) (p2 : Int32) (p3 : Int32) (rv : Int32) (hf : f_X0_isPair tfa p0 p1 p2 p3 = some rv) : Met l yX0_isPair wsX0_isPair { frames := 2, cells := 0, slots := 0, locals := 38 } (va_Pc [.ref th, .int p0, .int p1, .int p2, .int p3] (mc_Pre (dC, dI) (mc_tys cyI cyJ cyC) [(th, .inr (0, [.ref tqa, .ref tqb, .ref tqc, .ref tzh, .int tdd, .int tsz])), (tqa, .inl (cyI, 40, .inl tfa)), (tqb, .inl (cyI, 40, .inl tfb)), (tqc, .inl (cyI, 40, .inl tfc)), (tzh, .inr (1, [.int tzra, .int tzrb, .int tzrc, .int tzrp, .int tzrq, .int tzrr, .int tzrs, .int tzrd]))] sz)) (va_Qi (fun r (_ : Unit) => r = rv) (fun _ t => mc_Post (dC, dI) (va_A [(th, .inr (0, [.ref tqa, .ref tqb, .ref tqc, .ref tzh, .int tdd, .int tsz])), (tqa, .inl (cyI, 40, .inl tfa)), (tqb, .inl (cyI, 40, .inl tfb)), (tqc, .inl (cyI, 40, .inl tfc)), (tzh, .inr (1, [.int tzra, .int tzrb, .int tzrc, .int tzrp, .int tzrq, .int tzrr, .int tzrs, .int tzrd]))] sz) [(th, .inr (0, [.ref tqa, .ref tqb, .ref tqc, .ref tzh, .int tdd, .int tsz])), (tqa, .inl (cyI, 40, .inl tfa)), (tqb, .inl (cyI, 40, .inl tfb)), (tqc, .inl (cyI, 40, .inl tfc)), (tzh, .inr (1, [.int tzra, .int tzrb, .int tzrc, .int tzrp, .int tzrq, .int tzrr, .int tzrs, .int tzrd]))] t) (va_A [(th, .inr (0, [.ref tqa, .ref tqb, .ref tqc, .ref tzh, .int tdd, .int tsz])), (tqa, .inl (cyI, 40, .inl tfa)), (tqb, .inl (cyI, 40, .inl tfb)), (tqc, .inl (cyI, 40, .inl tfc)), (tzh, .inr (1, [.int tzra, .int tzrb, .int tzrc, .int tzrp, .int tzrq, .int tzrr, .int tzrs, .int tzrd]))] sz)) 0 0 (va_A [(th, .inr (0, [.ref tqa, .ref tqb, .ref tqc, .ref tzh, .int tdd, .int tsz])), (tqa, .inl (cyI, 40, .inl tfa)), (tqb, .inl (cyI, 40, .inl tfb)), (tqc, .inl (cyI, 40, .inl tfc)), (tzh, .inr (1, [.int tzra, .int tzrb, .int tzrc, .int tzrp, .int tzrq, .int tzrr, .int tzrs, .int tzrd]))] sz) := by
  refine Met.ofW (cc := cX0_isPair) (maxL := 6) (ret := (some .boolean)) (by decide +kernel) rfl ?_
  intro p e s m args below meth c s₁ B hml hv
  obtain ⟨rfl, hsz, hP, hK, hD0, hnw⟩ := hv
  have hx := B.exec
  have hb := B.bytes
  have hr := B.returns
  have hts := atoms_spec (ws := wsX0_isPair) B.pre
  have hown : s.vm.findClass RX0 = some m.cls := findClass_of_methodNamed B.named
  have hlocks := B.notSynchronized
  have hinX0 : ∀ w ∈ wsX00, w ∈ wsX0_isPair := by decide +kernel
  subst hsz
  have hD := hD0.self (sz := s.heap.size)
  generalize hAe : va_A [(th, .inr (0, [.ref tqa, .ref tqb, .ref tqc, .ref tzh, .int tdd, .int tsz])), (tqa, .inl (cyI, 40, .inl tfa)), (tqb, .inl (cyI, 40, .inl tfb)), (tqc, .inl (cyI, 40, .inl tfc)), (tzh, .inr (1, [.int tzra, .int tzrb, .int tzrc, .int tzrp, .int tzrq, .int tzrr, .int tzrs, .int tzrd]))] s.heap.size = A at hD ⊢
  have hA : ∀ q : Nat, s.heap.size ≤ q → A q := fun q h => by rw [← hAe]; exact Or.inr h
  have hS : va_S A s.heap s.heap [] := va_S.rf
  have hP : va_P (dC, dI) vwCl [(th, .inr (0, [.ref tqa, .ref tqb, .ref tqc, .ref tzh, .int tdd, .int tsz])), (tqa, .inl (cyI, 40, .inl tfa)), (tqb, .inl (cyI, 40, .inl tfb)), (tqc, .inl (cyI, 40, .inl tfc)), (tzh, .inr (1, [.int tzra, .int tzrb, .int tzrc, .int tzrp, .int tzrq, .int tzrr, .int tzrs, .int tzrd]))] s.heap := hP
  have hl := lv_entry ([.ref th, .int p0, .int p1, .int p2, .int p3]) (n := 6) (Nat.le_of_ble_eq_true rfl)
  rw [lg_entry_eq]
  generalize (lg_sl ([.ref th, .int p0, .int p1, .int p2, .int p3]) ++ List.replicate (6 - (lg_sl ([.ref th, .int p0, .int p1, .int p2, .int p3])).length) Slot.unset).toArray = ls at hl ⊢
  have hl : lv_has ls 6 [(0, .ref th), (1, .int p0), (2, .int p1), (3, .int p2), (4, .int p3)] := hl
  obtain ⟨QQ, hQQ⟩ : ∃ Q, Q = MQ below (va_Qi (fun r (_ : Unit) => r = rv) (fun _ t => mc_Post (dC, dI) A [(th, .inr (0, [.ref tqa, .ref tqb, .ref tqc, .ref tzh, .int tdd, .int tsz])), (tqa, .inl (cyI, 40, .inl tfa)), (tqb, .inl (cyI, 40, .inl tfb)), (tqc, .inl (cyI, 40, .inl tfc)), (tzh, .inr (1, [.int tzra, .int tzrb, .int tzrc, .int tzrp, .int tzrq, .int tzrr, .int tzrs, .int tzrd]))] t) A) ([Value.ref th, Value.int p0, Value.int p1, Value.int p2, Value.int p3] : List Value).toArray s 0 0 A := ⟨_, rfl⟩
  rw [← hQQ]
  have h := hf
  unfold f_X0_isPair at h
  refine lv_iconst (v := 2) hx hb dX0_isPair_0 (by decide) ?_
  refine lv_aload_n hx hb dX0_isPair_1 rfl (lv_at hl 0 rfl) ?_
  refine va_get (D := (dC, dI)) (ci := 0) (v := .ref tqa) (C := RX0) (T := TX0) (N := 6) hx hb hts hinX0 hown hK hP 0 rfl rfl 0 (by decide) (hts (.fieldLink RX0 9 "FormDesk$ClassList" "a" "[I") (by decide +kernel)) (fun _ h9 => h9) rfl dX0_isPair_2 ?_
  refine lv_iload_n hx hb dX0_isPair_5 rfl (lv_at hl 1 rfl) ?_
  obtain ⟨hn1, h⟩ := dm_gs h
  refine va_iald hx hb hK hP 1 0 rfl rfl hn1 dX0_isPair_6 ?_
  refine lv_imul hx hb dX0_isPair_7 ?_
  refine lv_topi (fun x2 ex2 => ?_)
  have h := dm_lu ex2 h
  refine lv_istore (lv' := [(5, .int x2), (0, .ref th), (1, .int p0), (2, .int p1), (3, .int p2), (4, .int p3)]) hx hb dX0_isPair_8 hl (by decide) rfl (fun ls hl => ?_)
  refine lv_iload hx hb dX0_isPair_10 (lv_at hl 0 rfl) ?_
  refine lv_iload_n hx hb dX0_isPair_12 rfl (lv_at hl 3 rfl) ?_
  obtain ⟨r3, hk4, h⟩ := dm_b1s h
  refine mc_i (wr := [(th, .inr (0, [.ref tqa, .ref tqb, .ref tqc, .ref tzh, .int tdd, .int tsz])), (tqa, .inl (cyI, 40, .inl tfa)), (tqb, .inl (cyI, 40, .inl tfb)), (tqc, .inl (cyI, 40, .inl tfc)), (tzh, .inr (1, [.int tzra, .int tzrb, .int tzrc, .int tzrp, .int tzrq, .int tzrr, .int tzrs, .int tzrd]))]) (va_runSN (As := [.int x2, .int p1]) (rest := []) ⟨hx, hb, hml, hown, hts⟩ (c_X3_divides l dC dI cyI cyJ cyC s.heap.size x2 p1 r3 hk4) ⟨va_cnB 2 hts gX0_isPair_X3_divides_n51 rfl rfl rfl (hnw _ (by decide +kernel : Cond.methodLinkNest RX0 51 yX3_divides "FormDesk" ∈ mc_nws)) (hts (.initialized RX3) (by decide +kernel)) (by decide +kernel) ⟨(Nat.le_of_ble_eq_true rfl), (Nat.le_of_ble_eq_true rfl)⟩, hts (.static yX3_divides) (by decide +kernel), trivial⟩ (mc_preS hK (hP.sub (ws' := []) [] rfl) (hD.sub (ws' := []) [] (by decide) rfl) hnw) rfl rfl hl.1 rfl (lv_room (Nat.le_of_ble_eq_true rfl)) dX0_isPair_13 ⟨Nat.zero_le _, Nat.zero_le _⟩) hP hD hS hA [] [0, 1, 2, 3, 4] rfl rfl rfl (by decide) (fun H locs hP hD hS => ?_)
  have hP : va_P (dC, dI) vwCl [(th, .inr (0, [.ref tqa, .ref tqb, .ref tqc, .ref tzh, .int tdd, .int tsz])), (tqa, .inl (cyI, 40, .inl tfa)), (tqb, .inl (cyI, 40, .inl tfb)), (tqc, .inl (cyI, 40, .inl tfc)), (tzh, .inr (1, [.int tzra, .int tzrb, .int tzrc, .int tzrp, .int tzrq, .int tzrr, .int tzrs, .int tzrd]))] H := hP
  have hD : va_D A [(th, .inr (0, [.ref tqa, .ref tqb, .ref tqc, .ref tzh, .int tdd, .int tsz])), (tqa, .inl (cyI, 40, .inl tfa)), (tqb, .inl (cyI, 40, .inl tfb)), (tqc, .inl (cyI, 40, .inl tfc)), (tzh, .inr (1, [.int tzra, .int tzrb, .int tzrc, .int tzrp, .int tzrq, .int tzrr, .int tzrs, .int tzrd]))] := hD
  refine lv_if_eq (tgt := 40) hx hb dX0_isPair_16 (by decide) (fun hc5 => ?_) (fun hc5 => ?_)
  · have h := dm_t hc5 h
    refine lv_iconst (v := 0) hx hb dX0_isPair_40 (by decide) ?_
    obtain hE0 := dm_i1 h
    subst hE0
    rw [hQQ]
    have hP9 := hP.sub (ws' := [(th, .inr (0, [.ref tqa, .ref tqb, .ref tqc, .ref tzh, .int tdd, .int tsz])), (tqa, .inl (cyI, 40, .inl tfa)), (tqb, .inl (cyI, 40, .inl tfb)), (tqc, .inl (cyI, 40, .inl tfc)), (tzh, .inr (1, [.int tzra, .int tzrb, .int tzrc, .int tzrp, .int tzrq, .int tzrr, .int tzrs, .int tzrd]))]) [0, 1, 2, 3, 4] rfl
    have hD9 := hD.sub (ws' := [(th, .inr (0, [.ref tqa, .ref tqb, .ref tqc, .ref tzh, .int tdd, .int tsz])), (tqa, .inl (cyI, 40, .inl tfa)), (tqb, .inl (cyI, 40, .inl tfb)), (tqc, .inl (cyI, 40, .inl tfc)), (tzh, .inr (1, [.int tzra, .int tzrb, .int tzrc, .int tzrp, .int tzrq, .int tzrr, .int tzrs, .int tzrd]))]) [0, 1, 2, 3, 4] (by decide) rfl
    exact W.zret (v := (0 : Int32)) hx hb hr rfl (fun t ht hW => ⟨⟨(0 : Int32), (), rfl, rfl, by rw [ht]; exact hP9, hD9⟩, hS.F ht⟩) hS.2.2 dX0_isPair_41
  · have h := dm_f hc5 h
    refine lv_iload hx hb dX0_isPair_19 (lv_at hl 5 rfl) ?_
    refine lv_if_eq (tgt := 36) hx hb dX0_isPair_21 (by decide) (fun hc6 => ?_) (fun hc6 => ?_)
    · have h := dm_t hc6 h
      refine lv_iconst (v := 1) hx hb dX0_isPair_36 (by decide) ?_
      refine lv_goto (tgt := 41) hx hb dX0_isPair_37 (by decide) ?_
      obtain hE0 := dm_i1 h
      subst hE0
      rw [hQQ]
      have hP9 := hP.sub (ws' := [(th, .inr (0, [.ref tqa, .ref tqb, .ref tqc, .ref tzh, .int tdd, .int tsz])), (tqa, .inl (cyI, 40, .inl tfa)), (tqb, .inl (cyI, 40, .inl tfb)), (tqc, .inl (cyI, 40, .inl tfc)), (tzh, .inr (1, [.int tzra, .int tzrb, .int tzrc, .int tzrp, .int tzrq, .int tzrr, .int tzrs, .int tzrd]))]) [0, 1, 2, 3, 4] rfl
      have hD9 := hD.sub (ws' := [(th, .inr (0, [.ref tqa, .ref tqb, .ref tqc, .ref tzh, .int tdd, .int tsz])), (tqa, .inl (cyI, 40, .inl tfa)), (tqb, .inl (cyI, 40, .inl tfb)), (tqc, .inl (cyI, 40, .inl tfc)), (tzh, .inr (1, [.int tzra, .int tzrb, .int tzrc, .int tzrp, .int tzrq, .int tzrr, .int tzrs, .int tzrd]))]) [0, 1, 2, 3, 4] (by decide) rfl
      exact W.zret (v := (1 : Int32)) hx hb hr rfl (fun t ht hW => ⟨⟨(1 : Int32), (), rfl, rfl, by rw [ht]; exact hP9, hD9⟩, hS.F ht⟩) hS.2.2 dX0_isPair_41
    · have h := dm_f hc6 h
      refine lv_iload_n hx hb dX0_isPair_24 rfl (lv_at hl 3 rfl) ?_
      refine lv_iload hx hb dX0_isPair_25 (lv_at hl 0 rfl) ?_
      obtain ⟨hn7, h⟩ := dm_gs h
      refine lv_idiv hx hb dX0_isPair_27 hn7 ?_
      refine lv_iload_n hx hb dX0_isPair_28 rfl (lv_at hl 4 rfl) ?_
      obtain ⟨r8, hk9, h⟩ := dm_b1s h
      refine mc_i (wr := [(th, .inr (0, [.ref tqa, .ref tqb, .ref tqc, .ref tzh, .int tdd, .int tsz])), (tqa, .inl (cyI, 40, .inl tfa)), (tqb, .inl (cyI, 40, .inl tfb)), (tqc, .inl (cyI, 40, .inl tfc)), (tzh, .inr (1, [.int tzra, .int tzrb, .int tzrc, .int tzrp, .int tzrq, .int tzrr, .int tzrs, .int tzrd]))]) (va_runSN (As := [.int (p1 / x2), .int p2]) (rest := []) ⟨hx, hb, hml, hown, hts⟩ (c_X3_gcd l dC dI cyI cyJ cyC H.size (p1 / x2) p2 r8 hk9) ⟨va_cnB 2 hts gX0_isPair_X3_gcd_n43 rfl rfl rfl (hnw _ (by decide +kernel : Cond.methodLinkNest RX0 43 yX3_gcd "FormDesk" ∈ mc_nws)) (hts (.initialized RX3) (by decide +kernel)) (by decide +kernel) ⟨(Nat.le_of_ble_eq_true rfl), (Nat.le_of_ble_eq_true rfl)⟩, hts (.static yX3_gcd) (by decide +kernel), trivial⟩ (mc_preS hK (hP.sub (ws' := []) [] rfl) (hD.sub (ws' := []) [] (by decide) rfl) hnw) rfl rfl hl.1 rfl (lv_room (Nat.le_of_ble_eq_true rfl)) dX0_isPair_29 ⟨Nat.zero_le _, Nat.zero_le _⟩) hP hD hS hA [] [0, 1, 2, 3, 4] rfl rfl rfl (by decide) (fun H locs hP hD hS => ?_)
      have hP : va_P (dC, dI) vwCl [(th, .inr (0, [.ref tqa, .ref tqb, .ref tqc, .ref tzh, .int tdd, .int tsz])), (tqa, .inl (cyI, 40, .inl tfa)), (tqb, .inl (cyI, 40, .inl tfb)), (tqc, .inl (cyI, 40, .inl tfc)), (tzh, .inr (1, [.int tzra, .int tzrb, .int tzrc, .int tzrp, .int tzrq, .int tzrr, .int tzrs, .int tzrd]))] H := hP
      have hD : va_D A [(th, .inr (0, [.ref tqa, .ref tqb, .ref tqc, .ref tzh, .int tdd, .int tsz])), (tqa, .inl (cyI, 40, .inl tfa)), (tqb, .inl (cyI, 40, .inl tfb)), (tqc, .inl (cyI, 40, .inl tfc)), (tzh, .inr (1, [.int tzra, .int tzrb, .int tzrc, .int tzrp, .int tzrq, .int tzrr, .int tzrs, .int tzrd]))] := hD
      refine lv_iconst (v := 1) hx hb dX0_isPair_32 (by decide) ?_
      refine lv_icmp_ne (tgt := 40) hx hb dX0_isPair_33 (by decide) (fun hc10 => ?_) (fun hc10 => ?_)
      · have h := dm_f hc10 h
        refine lv_iconst (v := 0) hx hb dX0_isPair_40 (by decide) ?_
        obtain hE0 := dm_i1 h
        subst hE0
        rw [hQQ]
        have hP9 := hP.sub (ws' := [(th, .inr (0, [.ref tqa, .ref tqb, .ref tqc, .ref tzh, .int tdd, .int tsz])), (tqa, .inl (cyI, 40, .inl tfa)), (tqb, .inl (cyI, 40, .inl tfb)), (tqc, .inl (cyI, 40, .inl tfc)), (tzh, .inr (1, [.int tzra, .int tzrb, .int tzrc, .int tzrp, .int tzrq, .int tzrr, .int tzrs, .int tzrd]))]) [0, 1, 2, 3, 4] rfl
        have hD9 := hD.sub (ws' := [(th, .inr (0, [.ref tqa, .ref tqb, .ref tqc, .ref tzh, .int tdd, .int tsz])), (tqa, .inl (cyI, 40, .inl tfa)), (tqb, .inl (cyI, 40, .inl tfb)), (tqc, .inl (cyI, 40, .inl tfc)), (tzh, .inr (1, [.int tzra, .int tzrb, .int tzrc, .int tzrp, .int tzrq, .int tzrr, .int tzrs, .int tzrd]))]) [0, 1, 2, 3, 4] (by decide) rfl
        exact W.zret (v := (0 : Int32)) hx hb hr rfl (fun t ht hW => ⟨⟨(0 : Int32), (), rfl, rfl, by rw [ht]; exact hP9, hD9⟩, hS.F ht⟩) hS.2.2 dX0_isPair_41
      · have h := dm_t hc10 h
        refine lv_iconst (v := 1) hx hb dX0_isPair_36 (by decide) ?_
        refine lv_goto (tgt := 41) hx hb dX0_isPair_37 (by decide) ?_
        obtain hE0 := dm_i1 h
        subst hE0
        rw [hQQ]
        have hP9 := hP.sub (ws' := [(th, .inr (0, [.ref tqa, .ref tqb, .ref tqc, .ref tzh, .int tdd, .int tsz])), (tqa, .inl (cyI, 40, .inl tfa)), (tqb, .inl (cyI, 40, .inl tfb)), (tqc, .inl (cyI, 40, .inl tfc)), (tzh, .inr (1, [.int tzra, .int tzrb, .int tzrc, .int tzrp, .int tzrq, .int tzrr, .int tzrs, .int tzrd]))]) [0, 1, 2, 3, 4] rfl
        have hD9 := hD.sub (ws' := [(th, .inr (0, [.ref tqa, .ref tqb, .ref tqc, .ref tzh, .int tdd, .int tsz])), (tqa, .inl (cyI, 40, .inl tfa)), (tqb, .inl (cyI, 40, .inl tfb)), (tqc, .inl (cyI, 40, .inl tfc)), (tzh, .inr (1, [.int tzra, .int tzrb, .int tzrc, .int tzrp, .int tzrq, .int tzrr, .int tzrs, .int tzrd]))]) [0, 1, 2, 3, 4] (by decide) rfl
        exact W.zret (v := (1 : Int32)) hx hb hr rfl (fun t ht hW => ⟨⟨(1 : Int32), (), rfl, rfl, by rw [ht]; exact hP9, hD9⟩, hS.F ht⟩) hS.2.2 dX0_isPair_41

def f_X0_countInRow (tfa : Nat → Int32) (tfb : Nat → Int32) (p0 : Int32) (p1 : Int32) (p2 : Int32) (p3 : Int32) : Option (Int32) :=
  dm_b1 (f_X3_root p2) fun r1 =>
  if (r1 * r1) = p2 then
    dm_g (¬ (p0 < 0 ∨ 40 ≤ (p0).toNatClampNeg)) <|
    dm_b1 (f_X0_isPair tfa p0 (r1 - ((tfb (p0).toNatClampNeg) * p1)) p1 p3) fun r5 =>
    if r5 = 0 then
      if r1 = 0 then
        some (0 : Int32)
      else
        dm_g (¬ (p0 < 0 ∨ 40 ≤ (p0).toNatClampNeg)) <|
        dm_b1 (f_X0_isPair tfa p0 ((-r1) - ((tfb (p0).toNatClampNeg) * p1)) p1 p3) fun r10 =>
        if r10 = 0 then
          some (0 : Int32)
        else
          dm_let ((0 : Int32) + (1 : Int32)) fun x13 =>
          some x13
    else
      if r1 = 0 then
        some (1 : Int32)
      else
        dm_g (¬ (p0 < 0 ∨ 40 ≤ (p0).toNatClampNeg)) <|
        dm_b1 (f_X0_isPair tfa p0 ((-r1) - ((tfb (p0).toNatClampNeg) * p1)) p1 p3) fun r16 =>
        if r16 = 0 then
          some (1 : Int32)
        else
          dm_let ((1 : Int32) + (1 : Int32)) fun x19 =>
          some x19
  else
    some (0 : Int32)
set_option maxHeartbeats 4000000 in
set_option maxRecDepth 100000 in
theorem c_X0_countInRow (l : Launch) (dC : Nat → ClassId) (dI : Nat → Nat → Nat) (cyI cyJ cyC : ClassId) (th tqa tqb tqc tzh : Nat) (sz : Nat) (tfa : Nat → Int32) (tfb : Nat → Int32) (tfc : Nat → Int32) (tdd : Int32) (tsz : Int32) (tzra : Int32) (tzrb : Int32) (tzrc : Int32) (tzrp : Int32) (tzrq : Int32) (tzrr : Int32) (tzrs : Int32) (tzrd : Int32) (p0 : Int32) (p1 : Int32) (p2 : Int32) (p3 : Int32) (rv : Int32) (hf : f_X0_countInRow tfa tfb p0 p1 p2 p3 = some rv) : Met l yX0_countInRow wsX0_countInRow { frames := 3, cells := 0, slots := 0, locals := 63 } (va_Pc [.ref th, .int p0, .int p1, .int p2, .int p3] (mc_Pre (dC, dI) (mc_tys cyI cyJ cyC) [(th, .inr (0, [.ref tqa, .ref tqb, .ref tqc, .ref tzh, .int tdd, .int tsz])), (tqa, .inl (cyI, 40, .inl tfa)), (tqb, .inl (cyI, 40, .inl tfb)), (tqc, .inl (cyI, 40, .inl tfc)), (tzh, .inr (1, [.int tzra, .int tzrb, .int tzrc, .int tzrp, .int tzrq, .int tzrr, .int tzrs, .int tzrd]))] sz)) (va_Qi (fun r (_ : Unit) => r = rv) (fun _ t => mc_Post (dC, dI) (va_A [(th, .inr (0, [.ref tqa, .ref tqb, .ref tqc, .ref tzh, .int tdd, .int tsz])), (tqa, .inl (cyI, 40, .inl tfa)), (tqb, .inl (cyI, 40, .inl tfb)), (tqc, .inl (cyI, 40, .inl tfc)), (tzh, .inr (1, [.int tzra, .int tzrb, .int tzrc, .int tzrp, .int tzrq, .int tzrr, .int tzrs, .int tzrd]))] sz) [(th, .inr (0, [.ref tqa, .ref tqb, .ref tqc, .ref tzh, .int tdd, .int tsz])), (tqa, .inl (cyI, 40, .inl tfa)), (tqb, .inl (cyI, 40, .inl tfb)), (tqc, .inl (cyI, 40, .inl tfc)), (tzh, .inr (1, [.int tzra, .int tzrb, .int tzrc, .int tzrp, .int tzrq, .int tzrr, .int tzrs, .int tzrd]))] t) (va_A [(th, .inr (0, [.ref tqa, .ref tqb, .ref tqc, .ref tzh, .int tdd, .int tsz])), (tqa, .inl (cyI, 40, .inl tfa)), (tqb, .inl (cyI, 40, .inl tfb)), (tqc, .inl (cyI, 40, .inl tfc)), (tzh, .inr (1, [.int tzra, .int tzrb, .int tzrc, .int tzrp, .int tzrq, .int tzrr, .int tzrs, .int tzrd]))] sz)) 0 0 (va_A [(th, .inr (0, [.ref tqa, .ref tqb, .ref tqc, .ref tzh, .int tdd, .int tsz])), (tqa, .inl (cyI, 40, .inl tfa)), (tqb, .inl (cyI, 40, .inl tfb)), (tqc, .inl (cyI, 40, .inl tfc)), (tzh, .inr (1, [.int tzra, .int tzrb, .int tzrc, .int tzrp, .int tzrq, .int tzrr, .int tzrs, .int tzrd]))] sz) := by
  refine Met.ofW (cc := cX0_countInRow) (maxL := 7) (ret := (some .int)) (by decide +kernel) rfl ?_
  intro p e s m args below meth c s₁ B hml hv
  obtain ⟨rfl, hsz, hP, hK, hD0, hnw⟩ := hv
  have hx := B.exec
  have hb := B.bytes
  have hr := B.returns
  have hts := atoms_spec (ws := wsX0_countInRow) B.pre
  have hown : s.vm.findClass RX0 = some m.cls := findClass_of_methodNamed B.named
  have hlocks := B.notSynchronized
  have hinX0 : ∀ w ∈ wsX00, w ∈ wsX0_countInRow := by decide +kernel
  subst hsz
  have hD := hD0.self (sz := s.heap.size)
  generalize hAe : va_A [(th, .inr (0, [.ref tqa, .ref tqb, .ref tqc, .ref tzh, .int tdd, .int tsz])), (tqa, .inl (cyI, 40, .inl tfa)), (tqb, .inl (cyI, 40, .inl tfb)), (tqc, .inl (cyI, 40, .inl tfc)), (tzh, .inr (1, [.int tzra, .int tzrb, .int tzrc, .int tzrp, .int tzrq, .int tzrr, .int tzrs, .int tzrd]))] s.heap.size = A at hD ⊢
  have hA : ∀ q : Nat, s.heap.size ≤ q → A q := fun q h => by rw [← hAe]; exact Or.inr h
  have hS : va_S A s.heap s.heap [] := va_S.rf
  have hP : va_P (dC, dI) vwCl [(th, .inr (0, [.ref tqa, .ref tqb, .ref tqc, .ref tzh, .int tdd, .int tsz])), (tqa, .inl (cyI, 40, .inl tfa)), (tqb, .inl (cyI, 40, .inl tfb)), (tqc, .inl (cyI, 40, .inl tfc)), (tzh, .inr (1, [.int tzra, .int tzrb, .int tzrc, .int tzrp, .int tzrq, .int tzrr, .int tzrs, .int tzrd]))] s.heap := hP
  have hl := lv_entry ([.ref th, .int p0, .int p1, .int p2, .int p3]) (n := 7) (Nat.le_of_ble_eq_true rfl)
  rw [lg_entry_eq]
  generalize (lg_sl ([.ref th, .int p0, .int p1, .int p2, .int p3]) ++ List.replicate (7 - (lg_sl ([.ref th, .int p0, .int p1, .int p2, .int p3])).length) Slot.unset).toArray = ls at hl ⊢
  have hl : lv_has ls 7 [(0, .ref th), (1, .int p0), (2, .int p1), (3, .int p2), (4, .int p3)] := hl
  obtain ⟨QQ, hQQ⟩ : ∃ Q, Q = MQ below (va_Qi (fun r (_ : Unit) => r = rv) (fun _ t => mc_Post (dC, dI) A [(th, .inr (0, [.ref tqa, .ref tqb, .ref tqc, .ref tzh, .int tdd, .int tsz])), (tqa, .inl (cyI, 40, .inl tfa)), (tqb, .inl (cyI, 40, .inl tfb)), (tqc, .inl (cyI, 40, .inl tfc)), (tzh, .inr (1, [.int tzra, .int tzrb, .int tzrc, .int tzrp, .int tzrq, .int tzrr, .int tzrs, .int tzrd]))] t) A) ([Value.ref th, Value.int p0, Value.int p1, Value.int p2, Value.int p3] : List Value).toArray s 0 0 A := ⟨_, rfl⟩
  rw [← hQQ]
  have h := hf
  unfold f_X0_countInRow at h
  refine lv_iload_n hx hb dX0_countInRow_0 rfl (lv_at hl 3 rfl) ?_
  obtain ⟨r1, hk2, h⟩ := dm_b1s h
  refine mc_i (wr := [(th, .inr (0, [.ref tqa, .ref tqb, .ref tqc, .ref tzh, .int tdd, .int tsz])), (tqa, .inl (cyI, 40, .inl tfa)), (tqb, .inl (cyI, 40, .inl tfb)), (tqc, .inl (cyI, 40, .inl tfc)), (tzh, .inr (1, [.int tzra, .int tzrb, .int tzrc, .int tzrp, .int tzrq, .int tzrr, .int tzrs, .int tzrd]))]) (va_runSN (As := [.int p2]) (rest := []) ⟨hx, hb, hml, hown, hts⟩ (c_X3_root l dC dI cyI cyJ cyC s.heap.size p2 r1 hk2) ⟨va_cnB 1 hts gX0_countInRow_X3_root_n96 rfl rfl rfl (hnw _ (by decide +kernel : Cond.methodLinkNest RX0 96 yX3_root "FormDesk" ∈ mc_nws)) (hts (.initialized RX3) (by decide +kernel)) (by decide +kernel) ⟨(Nat.le_of_ble_eq_true rfl), (Nat.le_of_ble_eq_true rfl)⟩, hts (.static yX3_root) (by decide +kernel), trivial⟩ (mc_preS hK (hP.sub (ws' := []) [] rfl) (hD.sub (ws' := []) [] (by decide) rfl) hnw) rfl rfl hl.1 rfl (lv_room (Nat.le_of_ble_eq_true rfl)) dX0_countInRow_1 ⟨Nat.zero_le _, Nat.zero_le _⟩) hP hD hS hA [] [0, 1, 2, 3, 4] rfl rfl rfl (by decide) (fun H locs hP hD hS => ?_)
  have hP : va_P (dC, dI) vwCl [(th, .inr (0, [.ref tqa, .ref tqb, .ref tqc, .ref tzh, .int tdd, .int tsz])), (tqa, .inl (cyI, 40, .inl tfa)), (tqb, .inl (cyI, 40, .inl tfb)), (tqc, .inl (cyI, 40, .inl tfc)), (tzh, .inr (1, [.int tzra, .int tzrb, .int tzrc, .int tzrp, .int tzrq, .int tzrr, .int tzrs, .int tzrd]))] H := hP
  have hD : va_D A [(th, .inr (0, [.ref tqa, .ref tqb, .ref tqc, .ref tzh, .int tdd, .int tsz])), (tqa, .inl (cyI, 40, .inl tfa)), (tqb, .inl (cyI, 40, .inl tfb)), (tqc, .inl (cyI, 40, .inl tfc)), (tzh, .inr (1, [.int tzra, .int tzrb, .int tzrc, .int tzrp, .int tzrq, .int tzrr, .int tzrs, .int tzrd]))] := hD
  refine lv_istore (lv' := [(5, .int r1), (0, .ref th), (1, .int p0), (2, .int p1), (3, .int p2), (4, .int p3)]) hx hb dX0_countInRow_4 hl (by decide) rfl (fun ls hl => ?_)
  refine lv_iload hx hb dX0_countInRow_6 (lv_at hl 0 rfl) ?_
  refine lv_iload hx hb dX0_countInRow_8 (lv_at hl 0 rfl) ?_
  refine lv_imul hx hb dX0_countInRow_10 ?_
  refine lv_iload_n hx hb dX0_countInRow_11 rfl (lv_at hl 4 rfl) ?_
  refine lv_icmp_eq (tgt := 17) hx hb dX0_countInRow_12 (by decide) (fun hc3 => ?_) (fun hc3 => ?_)
  · have h := dm_t hc3 h
    refine lv_aload_n hx hb dX0_countInRow_17 rfl (lv_at hl 1 rfl) ?_
    refine lv_iload_n hx hb dX0_countInRow_18 rfl (lv_at hl 2 rfl) ?_
    refine lv_iload hx hb dX0_countInRow_19 (lv_at hl 0 rfl) ?_
    refine lv_aload_n hx hb dX0_countInRow_21 rfl (lv_at hl 1 rfl) ?_
    refine va_get (D := (dC, dI)) (ci := 0) (v := .ref tqb) (C := RX0) (T := TX0) (N := 6) hx hb hts hinX0 hown hK hP 0 rfl rfl 1 (by decide) (hts (.fieldLink RX0 15 "FormDesk$ClassList" "b" "[I") (by decide +kernel)) (fun _ h9 => h9) rfl dX0_countInRow_22 ?_
    refine lv_iload_n hx hb dX0_countInRow_25 rfl (lv_at hl 2 rfl) ?_
    obtain ⟨hn4, h⟩ := dm_gs h
    refine va_iald hx hb hK hP 2 0 rfl rfl hn4 dX0_countInRow_26 ?_
    refine lv_iload_n hx hb dX0_countInRow_27 rfl (lv_at hl 3 rfl) ?_
    refine lv_imul hx hb dX0_countInRow_28 ?_
    refine lv_isub hx hb dX0_countInRow_29 ?_
    refine lv_iload_n hx hb dX0_countInRow_30 rfl (lv_at hl 3 rfl) ?_
    refine lv_iload hx hb dX0_countInRow_31 (lv_at hl 5 rfl) ?_
    obtain ⟨r5, hk6, h⟩ := dm_b1s h
    refine mc_i (wr := []) (va_runV (As := [.int p0, .int (r1 - ((tfb (p0).toNatClampNeg) * p1)), .int p1, .int p3]) (rest := []) ⟨hx, hb, hml, hown, hts⟩ (c_X0_isPair l dC dI cyI cyJ cyC th tqa tqb tqc tzh H.size tfa tfb tfc tdd tsz tzra tzrb tzrc tzrp tzrq tzrr tzrs tzrd p0 (r1 - ((tfb (p0).toNatClampNeg) * p1)) p1 p3 r5 hk6) (cwV 4 hts gX0_countInRow_X0_isPair rfl rfl rfl (by decide +kernel) ⟨(Nat.le_of_ble_eq_true rfl), (Nat.le_of_ble_eq_true rfl)⟩) (mc_preV hK (hP.sub (ws' := [(th, .inr (0, [.ref tqa, .ref tqb, .ref tqc, .ref tzh, .int tdd, .int tsz])), (tqa, .inl (cyI, 40, .inl tfa)), (tqb, .inl (cyI, 40, .inl tfb)), (tqc, .inl (cyI, 40, .inl tfc)), (tzh, .inr (1, [.int tzra, .int tzrb, .int tzrc, .int tzrp, .int tzrq, .int tzrr, .int tzrs, .int tzrd]))]) [0, 1, 2, 3, 4] rfl) (hD.sub (ws' := [(th, .inr (0, [.ref tqa, .ref tqb, .ref tqc, .ref tzh, .int tdd, .int tsz])), (tqa, .inl (cyI, 40, .inl tfa)), (tqb, .inl (cyI, 40, .inl tfb)), (tqc, .inl (cyI, 40, .inl tfc)), (tzh, .inr (1, [.int tzra, .int tzrb, .int tzrc, .int tzrp, .int tzrq, .int tzrr, .int tzrs, .int tzrd]))]) [0, 1, 2, 3, 4] (by decide) rfl) hnw rfl rfl) rfl rfl hl.1 rfl (lv_room (Nat.le_of_ble_eq_true rfl)) dX0_countInRow_33 ⟨Nat.zero_le _, Nat.zero_le _⟩) hP hD hS hA [0, 1, 2, 3, 4] [] rfl rfl rfl (by decide) (fun H locs hP hD hS => ?_)
    have hP : va_P (dC, dI) vwCl [(th, .inr (0, [.ref tqa, .ref tqb, .ref tqc, .ref tzh, .int tdd, .int tsz])), (tqa, .inl (cyI, 40, .inl tfa)), (tqb, .inl (cyI, 40, .inl tfb)), (tqc, .inl (cyI, 40, .inl tfc)), (tzh, .inr (1, [.int tzra, .int tzrb, .int tzrc, .int tzrp, .int tzrq, .int tzrr, .int tzrs, .int tzrd]))] H := hP
    have hD : va_D A [(th, .inr (0, [.ref tqa, .ref tqb, .ref tqc, .ref tzh, .int tdd, .int tsz])), (tqa, .inl (cyI, 40, .inl tfa)), (tqb, .inl (cyI, 40, .inl tfb)), (tqc, .inl (cyI, 40, .inl tfc)), (tzh, .inr (1, [.int tzra, .int tzrb, .int tzrc, .int tzrp, .int tzrq, .int tzrr, .int tzrs, .int tzrd]))] := hD
    refine lv_if_eq (tgt := 43) hx hb dX0_countInRow_36 (by decide) (fun hc7 => ?_) (fun hc7 => ?_)
    · have h := dm_t hc7 h
      refine lv_iconst (v := 0) hx hb dX0_countInRow_43 (by decide) ?_
      refine lv_istore (lv' := [(6, .int (0 : Int32)), (5, .int r1), (0, .ref th), (1, .int p0), (2, .int p1), (3, .int p2), (4, .int p3)]) hx hb dX0_countInRow_44 hl (by decide) rfl (fun ls hl => ?_)
      refine lv_iload hx hb dX0_countInRow_46 (lv_at hl 1 rfl) ?_
      refine lv_if_eq (tgt := 77) hx hb dX0_countInRow_48 (by decide) (fun hc8 => ?_) (fun hc8 => ?_)
      · have h := dm_t hc8 h
        refine lv_iload hx hb dX0_countInRow_77 (lv_at hl 0 rfl) ?_
        obtain hE0 := dm_i1 h
        subst hE0
        rw [hQQ]
        have hP9 := hP.sub (ws' := [(th, .inr (0, [.ref tqa, .ref tqb, .ref tqc, .ref tzh, .int tdd, .int tsz])), (tqa, .inl (cyI, 40, .inl tfa)), (tqb, .inl (cyI, 40, .inl tfb)), (tqc, .inl (cyI, 40, .inl tfc)), (tzh, .inr (1, [.int tzra, .int tzrb, .int tzrc, .int tzrp, .int tzrq, .int tzrr, .int tzrs, .int tzrd]))]) [0, 1, 2, 3, 4] rfl
        have hD9 := hD.sub (ws' := [(th, .inr (0, [.ref tqa, .ref tqb, .ref tqc, .ref tzh, .int tdd, .int tsz])), (tqa, .inl (cyI, 40, .inl tfa)), (tqb, .inl (cyI, 40, .inl tfb)), (tqc, .inl (cyI, 40, .inl tfc)), (tzh, .inr (1, [.int tzra, .int tzrb, .int tzrc, .int tzrp, .int tzrq, .int tzrr, .int tzrs, .int tzrd]))]) [0, 1, 2, 3, 4] (by decide) rfl
        exact W.iret (v := (0 : Int32)) hx hb hr (fun t ht hW => ⟨⟨(0 : Int32), (), rfl, rfl, by rw [ht]; exact hP9, hD9⟩, hS.F ht⟩) hS.2.2 dX0_countInRow_79
      · have h := dm_f hc8 h
        refine lv_aload_n hx hb dX0_countInRow_51 rfl (lv_at hl 2 rfl) ?_
        refine lv_iload_n hx hb dX0_countInRow_52 rfl (lv_at hl 3 rfl) ?_
        refine lv_iload hx hb dX0_countInRow_53 (lv_at hl 1 rfl) ?_
        refine lv_ineg hx hb dX0_countInRow_55 ?_
        refine lv_aload_n hx hb dX0_countInRow_56 rfl (lv_at hl 2 rfl) ?_
        refine va_get (D := (dC, dI)) (ci := 0) (v := .ref tqb) (C := RX0) (T := TX0) (N := 6) hx hb hts hinX0 hown hK hP 0 rfl rfl 1 (by decide) (hts (.fieldLink RX0 15 "FormDesk$ClassList" "b" "[I") (by decide +kernel)) (fun _ h9 => h9) rfl dX0_countInRow_57 ?_
        refine lv_iload_n hx hb dX0_countInRow_60 rfl (lv_at hl 3 rfl) ?_
        obtain ⟨hn9, h⟩ := dm_gs h
        refine va_iald hx hb hK hP 2 0 rfl rfl hn9 dX0_countInRow_61 ?_
        refine lv_iload_n hx hb dX0_countInRow_62 rfl (lv_at hl 4 rfl) ?_
        refine lv_imul hx hb dX0_countInRow_63 ?_
        refine lv_isub hx hb dX0_countInRow_64 ?_
        refine lv_iload_n hx hb dX0_countInRow_65 rfl (lv_at hl 4 rfl) ?_
        refine lv_iload hx hb dX0_countInRow_66 (lv_at hl 6 rfl) ?_
        obtain ⟨r10, hk11, h⟩ := dm_b1s h
        refine mc_i (wr := []) (va_runV (As := [.int p0, .int ((-r1) - ((tfb (p0).toNatClampNeg) * p1)), .int p1, .int p3]) (rest := []) ⟨hx, hb, hml, hown, hts⟩ (c_X0_isPair l dC dI cyI cyJ cyC th tqa tqb tqc tzh H.size tfa tfb tfc tdd tsz tzra tzrb tzrc tzrp tzrq tzrr tzrs tzrd p0 ((-r1) - ((tfb (p0).toNatClampNeg) * p1)) p1 p3 r10 hk11) (cwV 4 hts gX0_countInRow_X0_isPair rfl rfl rfl (by decide +kernel) ⟨(Nat.le_of_ble_eq_true rfl), (Nat.le_of_ble_eq_true rfl)⟩) (mc_preV hK (hP.sub (ws' := [(th, .inr (0, [.ref tqa, .ref tqb, .ref tqc, .ref tzh, .int tdd, .int tsz])), (tqa, .inl (cyI, 40, .inl tfa)), (tqb, .inl (cyI, 40, .inl tfb)), (tqc, .inl (cyI, 40, .inl tfc)), (tzh, .inr (1, [.int tzra, .int tzrb, .int tzrc, .int tzrp, .int tzrq, .int tzrr, .int tzrs, .int tzrd]))]) [0, 1, 2, 3, 4] rfl) (hD.sub (ws' := [(th, .inr (0, [.ref tqa, .ref tqb, .ref tqc, .ref tzh, .int tdd, .int tsz])), (tqa, .inl (cyI, 40, .inl tfa)), (tqb, .inl (cyI, 40, .inl tfb)), (tqc, .inl (cyI, 40, .inl tfc)), (tzh, .inr (1, [.int tzra, .int tzrb, .int tzrc, .int tzrp, .int tzrq, .int tzrr, .int tzrs, .int tzrd]))]) [0, 1, 2, 3, 4] (by decide) rfl) hnw rfl rfl) rfl rfl hl.1 rfl (lv_room (Nat.le_of_ble_eq_true rfl)) dX0_countInRow_68 ⟨Nat.zero_le _, Nat.zero_le _⟩) hP hD hS hA [0, 1, 2, 3, 4] [] rfl rfl rfl (by decide) (fun H locs hP hD hS => ?_)
        have hP : va_P (dC, dI) vwCl [(th, .inr (0, [.ref tqa, .ref tqb, .ref tqc, .ref tzh, .int tdd, .int tsz])), (tqa, .inl (cyI, 40, .inl tfa)), (tqb, .inl (cyI, 40, .inl tfb)), (tqc, .inl (cyI, 40, .inl tfc)), (tzh, .inr (1, [.int tzra, .int tzrb, .int tzrc, .int tzrp, .int tzrq, .int tzrr, .int tzrs, .int tzrd]))] H := hP
        have hD : va_D A [(th, .inr (0, [.ref tqa, .ref tqb, .ref tqc, .ref tzh, .int tdd, .int tsz])), (tqa, .inl (cyI, 40, .inl tfa)), (tqb, .inl (cyI, 40, .inl tfb)), (tqc, .inl (cyI, 40, .inl tfc)), (tzh, .inr (1, [.int tzra, .int tzrb, .int tzrc, .int tzrp, .int tzrq, .int tzrr, .int tzrs, .int tzrd]))] := hD
        refine lv_if_eq (tgt := 77) hx hb dX0_countInRow_71 (by decide) (fun hc12 => ?_) (fun hc12 => ?_)
        · have h := dm_t hc12 h
          refine lv_iload hx hb dX0_countInRow_77 (lv_at hl 0 rfl) ?_
          obtain hE0 := dm_i1 h
          subst hE0
          rw [hQQ]
          have hP9 := hP.sub (ws' := [(th, .inr (0, [.ref tqa, .ref tqb, .ref tqc, .ref tzh, .int tdd, .int tsz])), (tqa, .inl (cyI, 40, .inl tfa)), (tqb, .inl (cyI, 40, .inl tfb)), (tqc, .inl (cyI, 40, .inl tfc)), (tzh, .inr (1, [.int tzra, .int tzrb, .int tzrc, .int tzrp, .int tzrq, .int tzrr, .int tzrs, .int tzrd]))]) [0, 1, 2, 3, 4] rfl
          have hD9 := hD.sub (ws' := [(th, .inr (0, [.ref tqa, .ref tqb, .ref tqc, .ref tzh, .int tdd, .int tsz])), (tqa, .inl (cyI, 40, .inl tfa)), (tqb, .inl (cyI, 40, .inl tfb)), (tqc, .inl (cyI, 40, .inl tfc)), (tzh, .inr (1, [.int tzra, .int tzrb, .int tzrc, .int tzrp, .int tzrq, .int tzrr, .int tzrs, .int tzrd]))]) [0, 1, 2, 3, 4] (by decide) rfl
          exact W.iret (v := (0 : Int32)) hx hb hr (fun t ht hW => ⟨⟨(0 : Int32), (), rfl, rfl, by rw [ht]; exact hP9, hD9⟩, hS.F ht⟩) hS.2.2 dX0_countInRow_79
        · have h := dm_f hc12 h
          obtain ⟨x13, ex13⟩ : ∃ y : Int32, y = ((0 : Int32) + (1 : Int32)) := ⟨_, rfl⟩
          have h := dm_lu ex13 h
          refine lv_iinc (v := x13) (lv' := [(6, .int x13), (5, .int r1), (0, .ref th), (1, .int p0), (2, .int p1), (3, .int p2), (4, .int p3)]) hx hb dX0_countInRow_74 hl (k := 0) rfl (by rw [ex13]; rfl) (by decide) rfl (fun ls hl => ?_)
          refine lv_iload hx hb dX0_countInRow_77 (lv_at hl 0 rfl) ?_
          obtain hE0 := dm_i1 h
          subst hE0
          rw [hQQ]
          have hP9 := hP.sub (ws' := [(th, .inr (0, [.ref tqa, .ref tqb, .ref tqc, .ref tzh, .int tdd, .int tsz])), (tqa, .inl (cyI, 40, .inl tfa)), (tqb, .inl (cyI, 40, .inl tfb)), (tqc, .inl (cyI, 40, .inl tfc)), (tzh, .inr (1, [.int tzra, .int tzrb, .int tzrc, .int tzrp, .int tzrq, .int tzrr, .int tzrs, .int tzrd]))]) [0, 1, 2, 3, 4] rfl
          have hD9 := hD.sub (ws' := [(th, .inr (0, [.ref tqa, .ref tqb, .ref tqc, .ref tzh, .int tdd, .int tsz])), (tqa, .inl (cyI, 40, .inl tfa)), (tqb, .inl (cyI, 40, .inl tfb)), (tqc, .inl (cyI, 40, .inl tfc)), (tzh, .inr (1, [.int tzra, .int tzrb, .int tzrc, .int tzrp, .int tzrq, .int tzrr, .int tzrs, .int tzrd]))]) [0, 1, 2, 3, 4] (by decide) rfl
          exact W.iret (v := x13) hx hb hr (fun t ht hW => ⟨⟨x13, (), rfl, rfl, by rw [ht]; exact hP9, hD9⟩, hS.F ht⟩) hS.2.2 dX0_countInRow_79
    · have h := dm_f hc7 h
      refine lv_iconst (v := 1) hx hb dX0_countInRow_39 (by decide) ?_
      refine lv_goto (tgt := 44) hx hb dX0_countInRow_40 (by decide) ?_
      refine lv_istore (lv' := [(6, .int (1 : Int32)), (5, .int r1), (0, .ref th), (1, .int p0), (2, .int p1), (3, .int p2), (4, .int p3)]) hx hb dX0_countInRow_44 hl (by decide) rfl (fun ls hl => ?_)
      refine lv_iload hx hb dX0_countInRow_46 (lv_at hl 1 rfl) ?_
      refine lv_if_eq (tgt := 77) hx hb dX0_countInRow_48 (by decide) (fun hc14 => ?_) (fun hc14 => ?_)
      · have h := dm_t hc14 h
        refine lv_iload hx hb dX0_countInRow_77 (lv_at hl 0 rfl) ?_
        obtain hE0 := dm_i1 h
        subst hE0
        rw [hQQ]
        have hP9 := hP.sub (ws' := [(th, .inr (0, [.ref tqa, .ref tqb, .ref tqc, .ref tzh, .int tdd, .int tsz])), (tqa, .inl (cyI, 40, .inl tfa)), (tqb, .inl (cyI, 40, .inl tfb)), (tqc, .inl (cyI, 40, .inl tfc)), (tzh, .inr (1, [.int tzra, .int tzrb, .int tzrc, .int tzrp, .int tzrq, .int tzrr, .int tzrs, .int tzrd]))]) [0, 1, 2, 3, 4] rfl
        have hD9 := hD.sub (ws' := [(th, .inr (0, [.ref tqa, .ref tqb, .ref tqc, .ref tzh, .int tdd, .int tsz])), (tqa, .inl (cyI, 40, .inl tfa)), (tqb, .inl (cyI, 40, .inl tfb)), (tqc, .inl (cyI, 40, .inl tfc)), (tzh, .inr (1, [.int tzra, .int tzrb, .int tzrc, .int tzrp, .int tzrq, .int tzrr, .int tzrs, .int tzrd]))]) [0, 1, 2, 3, 4] (by decide) rfl
        exact W.iret (v := (1 : Int32)) hx hb hr (fun t ht hW => ⟨⟨(1 : Int32), (), rfl, rfl, by rw [ht]; exact hP9, hD9⟩, hS.F ht⟩) hS.2.2 dX0_countInRow_79
      · have h := dm_f hc14 h
        refine lv_aload_n hx hb dX0_countInRow_51 rfl (lv_at hl 2 rfl) ?_
        refine lv_iload_n hx hb dX0_countInRow_52 rfl (lv_at hl 3 rfl) ?_
        refine lv_iload hx hb dX0_countInRow_53 (lv_at hl 1 rfl) ?_
        refine lv_ineg hx hb dX0_countInRow_55 ?_
        refine lv_aload_n hx hb dX0_countInRow_56 rfl (lv_at hl 2 rfl) ?_
        refine va_get (D := (dC, dI)) (ci := 0) (v := .ref tqb) (C := RX0) (T := TX0) (N := 6) hx hb hts hinX0 hown hK hP 0 rfl rfl 1 (by decide) (hts (.fieldLink RX0 15 "FormDesk$ClassList" "b" "[I") (by decide +kernel)) (fun _ h9 => h9) rfl dX0_countInRow_57 ?_
        refine lv_iload_n hx hb dX0_countInRow_60 rfl (lv_at hl 3 rfl) ?_
        obtain ⟨hn15, h⟩ := dm_gs h
        refine va_iald hx hb hK hP 2 0 rfl rfl hn15 dX0_countInRow_61 ?_
        refine lv_iload_n hx hb dX0_countInRow_62 rfl (lv_at hl 4 rfl) ?_
        refine lv_imul hx hb dX0_countInRow_63 ?_
        refine lv_isub hx hb dX0_countInRow_64 ?_
        refine lv_iload_n hx hb dX0_countInRow_65 rfl (lv_at hl 4 rfl) ?_
        refine lv_iload hx hb dX0_countInRow_66 (lv_at hl 6 rfl) ?_
        obtain ⟨r16, hk17, h⟩ := dm_b1s h
        refine mc_i (wr := []) (va_runV (As := [.int p0, .int ((-r1) - ((tfb (p0).toNatClampNeg) * p1)), .int p1, .int p3]) (rest := []) ⟨hx, hb, hml, hown, hts⟩ (c_X0_isPair l dC dI cyI cyJ cyC th tqa tqb tqc tzh H.size tfa tfb tfc tdd tsz tzra tzrb tzrc tzrp tzrq tzrr tzrs tzrd p0 ((-r1) - ((tfb (p0).toNatClampNeg) * p1)) p1 p3 r16 hk17) (cwV 4 hts gX0_countInRow_X0_isPair rfl rfl rfl (by decide +kernel) ⟨(Nat.le_of_ble_eq_true rfl), (Nat.le_of_ble_eq_true rfl)⟩) (mc_preV hK (hP.sub (ws' := [(th, .inr (0, [.ref tqa, .ref tqb, .ref tqc, .ref tzh, .int tdd, .int tsz])), (tqa, .inl (cyI, 40, .inl tfa)), (tqb, .inl (cyI, 40, .inl tfb)), (tqc, .inl (cyI, 40, .inl tfc)), (tzh, .inr (1, [.int tzra, .int tzrb, .int tzrc, .int tzrp, .int tzrq, .int tzrr, .int tzrs, .int tzrd]))]) [0, 1, 2, 3, 4] rfl) (hD.sub (ws' := [(th, .inr (0, [.ref tqa, .ref tqb, .ref tqc, .ref tzh, .int tdd, .int tsz])), (tqa, .inl (cyI, 40, .inl tfa)), (tqb, .inl (cyI, 40, .inl tfb)), (tqc, .inl (cyI, 40, .inl tfc)), (tzh, .inr (1, [.int tzra, .int tzrb, .int tzrc, .int tzrp, .int tzrq, .int tzrr, .int tzrs, .int tzrd]))]) [0, 1, 2, 3, 4] (by decide) rfl) hnw rfl rfl) rfl rfl hl.1 rfl (lv_room (Nat.le_of_ble_eq_true rfl)) dX0_countInRow_68 ⟨Nat.zero_le _, Nat.zero_le _⟩) hP hD hS hA [0, 1, 2, 3, 4] [] rfl rfl rfl (by decide) (fun H locs hP hD hS => ?_)
        have hP : va_P (dC, dI) vwCl [(th, .inr (0, [.ref tqa, .ref tqb, .ref tqc, .ref tzh, .int tdd, .int tsz])), (tqa, .inl (cyI, 40, .inl tfa)), (tqb, .inl (cyI, 40, .inl tfb)), (tqc, .inl (cyI, 40, .inl tfc)), (tzh, .inr (1, [.int tzra, .int tzrb, .int tzrc, .int tzrp, .int tzrq, .int tzrr, .int tzrs, .int tzrd]))] H := hP
        have hD : va_D A [(th, .inr (0, [.ref tqa, .ref tqb, .ref tqc, .ref tzh, .int tdd, .int tsz])), (tqa, .inl (cyI, 40, .inl tfa)), (tqb, .inl (cyI, 40, .inl tfb)), (tqc, .inl (cyI, 40, .inl tfc)), (tzh, .inr (1, [.int tzra, .int tzrb, .int tzrc, .int tzrp, .int tzrq, .int tzrr, .int tzrs, .int tzrd]))] := hD
        refine lv_if_eq (tgt := 77) hx hb dX0_countInRow_71 (by decide) (fun hc18 => ?_) (fun hc18 => ?_)
        · have h := dm_t hc18 h
          refine lv_iload hx hb dX0_countInRow_77 (lv_at hl 0 rfl) ?_
          obtain hE0 := dm_i1 h
          subst hE0
          rw [hQQ]
          have hP9 := hP.sub (ws' := [(th, .inr (0, [.ref tqa, .ref tqb, .ref tqc, .ref tzh, .int tdd, .int tsz])), (tqa, .inl (cyI, 40, .inl tfa)), (tqb, .inl (cyI, 40, .inl tfb)), (tqc, .inl (cyI, 40, .inl tfc)), (tzh, .inr (1, [.int tzra, .int tzrb, .int tzrc, .int tzrp, .int tzrq, .int tzrr, .int tzrs, .int tzrd]))]) [0, 1, 2, 3, 4] rfl
          have hD9 := hD.sub (ws' := [(th, .inr (0, [.ref tqa, .ref tqb, .ref tqc, .ref tzh, .int tdd, .int tsz])), (tqa, .inl (cyI, 40, .inl tfa)), (tqb, .inl (cyI, 40, .inl tfb)), (tqc, .inl (cyI, 40, .inl tfc)), (tzh, .inr (1, [.int tzra, .int tzrb, .int tzrc, .int tzrp, .int tzrq, .int tzrr, .int tzrs, .int tzrd]))]) [0, 1, 2, 3, 4] (by decide) rfl
          exact W.iret (v := (1 : Int32)) hx hb hr (fun t ht hW => ⟨⟨(1 : Int32), (), rfl, rfl, by rw [ht]; exact hP9, hD9⟩, hS.F ht⟩) hS.2.2 dX0_countInRow_79
        · have h := dm_f hc18 h
          obtain ⟨x19, ex19⟩ : ∃ y : Int32, y = ((1 : Int32) + (1 : Int32)) := ⟨_, rfl⟩
          have h := dm_lu ex19 h
          refine lv_iinc (v := x19) (lv' := [(6, .int x19), (5, .int r1), (0, .ref th), (1, .int p0), (2, .int p1), (3, .int p2), (4, .int p3)]) hx hb dX0_countInRow_74 hl (k := 0) rfl (by rw [ex19]; rfl) (by decide) rfl (fun ls hl => ?_)
          refine lv_iload hx hb dX0_countInRow_77 (lv_at hl 0 rfl) ?_
          obtain hE0 := dm_i1 h
          subst hE0
          rw [hQQ]
          have hP9 := hP.sub (ws' := [(th, .inr (0, [.ref tqa, .ref tqb, .ref tqc, .ref tzh, .int tdd, .int tsz])), (tqa, .inl (cyI, 40, .inl tfa)), (tqb, .inl (cyI, 40, .inl tfb)), (tqc, .inl (cyI, 40, .inl tfc)), (tzh, .inr (1, [.int tzra, .int tzrb, .int tzrc, .int tzrp, .int tzrq, .int tzrr, .int tzrs, .int tzrd]))]) [0, 1, 2, 3, 4] rfl
          have hD9 := hD.sub (ws' := [(th, .inr (0, [.ref tqa, .ref tqb, .ref tqc, .ref tzh, .int tdd, .int tsz])), (tqa, .inl (cyI, 40, .inl tfa)), (tqb, .inl (cyI, 40, .inl tfb)), (tqc, .inl (cyI, 40, .inl tfc)), (tzh, .inr (1, [.int tzra, .int tzrb, .int tzrc, .int tzrp, .int tzrq, .int tzrr, .int tzrs, .int tzrd]))]) [0, 1, 2, 3, 4] (by decide) rfl
          exact W.iret (v := x19) hx hb hr (fun t ht hW => ⟨⟨x19, (), rfl, rfl, by rw [ht]; exact hP9, hD9⟩, hS.F ht⟩) hS.2.2 dX0_countInRow_79
  · have h := dm_f hc3 h
    refine lv_iconst (v := 0) hx hb dX0_countInRow_15 (by decide) ?_
    obtain hE0 := dm_i1 h
    subst hE0
    rw [hQQ]
    have hP9 := hP.sub (ws' := [(th, .inr (0, [.ref tqa, .ref tqb, .ref tqc, .ref tzh, .int tdd, .int tsz])), (tqa, .inl (cyI, 40, .inl tfa)), (tqb, .inl (cyI, 40, .inl tfb)), (tqc, .inl (cyI, 40, .inl tfc)), (tzh, .inr (1, [.int tzra, .int tzrb, .int tzrc, .int tzrp, .int tzrq, .int tzrr, .int tzrs, .int tzrd]))]) [0, 1, 2, 3, 4] rfl
    have hD9 := hD.sub (ws' := [(th, .inr (0, [.ref tqa, .ref tqb, .ref tqc, .ref tzh, .int tdd, .int tsz])), (tqa, .inl (cyI, 40, .inl tfa)), (tqb, .inl (cyI, 40, .inl tfb)), (tqc, .inl (cyI, 40, .inl tfc)), (tzh, .inr (1, [.int tzra, .int tzrb, .int tzrc, .int tzrp, .int tzrq, .int tzrr, .int tzrs, .int tzrd]))]) [0, 1, 2, 3, 4] (by decide) rfl
    exact W.iret (v := (0 : Int32)) hx hb hr (fun t ht hW => ⟨⟨(0 : Int32), (), rfl, rfl, by rw [ht]; exact hP9, hD9⟩, hS.F ht⟩) hS.2.2 dX0_countInRow_16

def f_X0_countPairs_L16 (tfa : Nat → Int32) (tfb : Nat → Int32) (tdd : Int32) (p0 : Int32) (p1 : Int32) (p2 : Int32)  : Nat → Int32 → Int32 → Option (Int32)
  | 0, _, _ => none
  | n + 1, v4, v5 =>
    if p1 < v4 then
      some v5
    else
      dm_g (¬ (p0 < 0 ∨ 40 ≤ (p0).toNatClampNeg)) <|
      dm_let ((((4 : Int32) * (tfa (p0).toNatClampNeg)) * p1) + ((tdd * v4) * v4)) fun x8 =>
      if 0 ≤ x8 then
        dm_b1 (f_X0_countInRow tfa tfb p0 v4 x8 p2) fun r10 =>
        if v4 = 0 then
          dm_let (v5 + r10) fun x15 =>
          dm_let (v4 + (1 : Int32)) fun x16 =>
          f_X0_countPairs_L16 tfa tfb tdd p0 p1 p2 n x16 x15
        else
          dm_let (v5 + ((2 : Int32) * r10)) fun x13 =>
          dm_let (v4 + (1 : Int32)) fun x14 =>
          f_X0_countPairs_L16 tfa tfb tdd p0 p1 p2 n x14 x13
      else
        some v5
def f_X0_countPairs (tfa : Nat → Int32) (tfb : Nat → Int32) (tdd : Int32) (tsz : Int32) (p0 : Int32) (p1 : Int32) (p2 : Int32) : Option (Int32) :=
  dm_b1 (f_X0_has tsz p0) fun r1 =>
  if r1 = 0 then
    some (0 : Int32)
  else
    f_X0_countPairs_L16 tfa tfb tdd p0 p1 p2 100000 (0 : Int32) (0 : Int32)
set_option maxHeartbeats 4000000 in
set_option maxRecDepth 100000 in
theorem c_X0_countPairs (l : Launch) (dC : Nat → ClassId) (dI : Nat → Nat → Nat) (cyI cyJ cyC : ClassId) (th tqa tqb tqc tzh : Nat) (sz : Nat) (tfa : Nat → Int32) (tfb : Nat → Int32) (tfc : Nat → Int32) (tdd : Int32) (tsz : Int32) (tzra : Int32) (tzrb : Int32) (tzrc : Int32) (tzrp : Int32) (tzrq : Int32) (tzrr : Int32) (tzrs : Int32) (tzrd : Int32) (p0 : Int32) (p1 : Int32) (p2 : Int32) (rv : Int32) (hf : f_X0_countPairs tfa tfb tdd tsz p0 p1 p2 = some rv) : Met l yX0_countPairs wsX0_countPairs { frames := 4, cells := 0, slots := 0, locals := 89 } (va_Pc [.ref th, .int p0, .int p1, .int p2] (mc_Pre (dC, dI) (mc_tys cyI cyJ cyC) [(th, .inr (0, [.ref tqa, .ref tqb, .ref tqc, .ref tzh, .int tdd, .int tsz])), (tqa, .inl (cyI, 40, .inl tfa)), (tqb, .inl (cyI, 40, .inl tfb)), (tqc, .inl (cyI, 40, .inl tfc)), (tzh, .inr (1, [.int tzra, .int tzrb, .int tzrc, .int tzrp, .int tzrq, .int tzrr, .int tzrs, .int tzrd]))] sz)) (va_Qi (fun r (_ : Unit) => r = rv) (fun _ t => mc_Post (dC, dI) (va_A [(th, .inr (0, [.ref tqa, .ref tqb, .ref tqc, .ref tzh, .int tdd, .int tsz])), (tqa, .inl (cyI, 40, .inl tfa)), (tqb, .inl (cyI, 40, .inl tfb)), (tqc, .inl (cyI, 40, .inl tfc)), (tzh, .inr (1, [.int tzra, .int tzrb, .int tzrc, .int tzrp, .int tzrq, .int tzrr, .int tzrs, .int tzrd]))] sz) [(th, .inr (0, [.ref tqa, .ref tqb, .ref tqc, .ref tzh, .int tdd, .int tsz])), (tqa, .inl (cyI, 40, .inl tfa)), (tqb, .inl (cyI, 40, .inl tfb)), (tqc, .inl (cyI, 40, .inl tfc)), (tzh, .inr (1, [.int tzra, .int tzrb, .int tzrc, .int tzrp, .int tzrq, .int tzrr, .int tzrs, .int tzrd]))] t) (va_A [(th, .inr (0, [.ref tqa, .ref tqb, .ref tqc, .ref tzh, .int tdd, .int tsz])), (tqa, .inl (cyI, 40, .inl tfa)), (tqb, .inl (cyI, 40, .inl tfb)), (tqc, .inl (cyI, 40, .inl tfc)), (tzh, .inr (1, [.int tzra, .int tzrb, .int tzrc, .int tzrp, .int tzrq, .int tzrr, .int tzrs, .int tzrd]))] sz)) 0 0 (va_A [(th, .inr (0, [.ref tqa, .ref tqb, .ref tqc, .ref tzh, .int tdd, .int tsz])), (tqa, .inl (cyI, 40, .inl tfa)), (tqb, .inl (cyI, 40, .inl tfb)), (tqc, .inl (cyI, 40, .inl tfc)), (tzh, .inr (1, [.int tzra, .int tzrb, .int tzrc, .int tzrp, .int tzrq, .int tzrr, .int tzrs, .int tzrd]))] sz) := by
  refine Met.ofW (cc := cX0_countPairs) (maxL := 8) (ret := (some .int)) (by decide +kernel) rfl ?_
  intro p e s m args below meth c s₁ B hml hv
  obtain ⟨rfl, hsz, hP, hK, hD0, hnw⟩ := hv
  have hx := B.exec
  have hb := B.bytes
  have hr := B.returns
  have hts := atoms_spec (ws := wsX0_countPairs) B.pre
  have hown : s.vm.findClass RX0 = some m.cls := findClass_of_methodNamed B.named
  have hlocks := B.notSynchronized
  have hinX0 : ∀ w ∈ wsX00, w ∈ wsX0_countPairs := by decide +kernel
  subst hsz
  have hD := hD0.self (sz := s.heap.size)
  generalize hAe : va_A [(th, .inr (0, [.ref tqa, .ref tqb, .ref tqc, .ref tzh, .int tdd, .int tsz])), (tqa, .inl (cyI, 40, .inl tfa)), (tqb, .inl (cyI, 40, .inl tfb)), (tqc, .inl (cyI, 40, .inl tfc)), (tzh, .inr (1, [.int tzra, .int tzrb, .int tzrc, .int tzrp, .int tzrq, .int tzrr, .int tzrs, .int tzrd]))] s.heap.size = A at hD ⊢
  have hA : ∀ q : Nat, s.heap.size ≤ q → A q := fun q h => by rw [← hAe]; exact Or.inr h
  have hS : va_S A s.heap s.heap [] := va_S.rf
  have hP : va_P (dC, dI) vwCl [(th, .inr (0, [.ref tqa, .ref tqb, .ref tqc, .ref tzh, .int tdd, .int tsz])), (tqa, .inl (cyI, 40, .inl tfa)), (tqb, .inl (cyI, 40, .inl tfb)), (tqc, .inl (cyI, 40, .inl tfc)), (tzh, .inr (1, [.int tzra, .int tzrb, .int tzrc, .int tzrp, .int tzrq, .int tzrr, .int tzrs, .int tzrd]))] s.heap := hP
  have hl := lv_entry ([.ref th, .int p0, .int p1, .int p2]) (n := 8) (Nat.le_of_ble_eq_true rfl)
  rw [lg_entry_eq]
  generalize (lg_sl ([.ref th, .int p0, .int p1, .int p2]) ++ List.replicate (8 - (lg_sl ([.ref th, .int p0, .int p1, .int p2])).length) Slot.unset).toArray = ls at hl ⊢
  have hl : lv_has ls 8 [(0, .ref th), (1, .int p0), (2, .int p1), (3, .int p2)] := hl
  obtain ⟨QQ, hQQ⟩ : ∃ Q, Q = MQ below (va_Qi (fun r (_ : Unit) => r = rv) (fun _ t => mc_Post (dC, dI) A [(th, .inr (0, [.ref tqa, .ref tqb, .ref tqc, .ref tzh, .int tdd, .int tsz])), (tqa, .inl (cyI, 40, .inl tfa)), (tqb, .inl (cyI, 40, .inl tfb)), (tqc, .inl (cyI, 40, .inl tfc)), (tzh, .inr (1, [.int tzra, .int tzrb, .int tzrc, .int tzrp, .int tzrq, .int tzrr, .int tzrs, .int tzrd]))] t) A) ([Value.ref th, Value.int p0, Value.int p1, Value.int p2] : List Value).toArray s 0 0 A := ⟨_, rfl⟩
  rw [← hQQ]
  have h := hf
  unfold f_X0_countPairs at h
  refine lv_aload_n hx hb dX0_countPairs_0 rfl (lv_at hl 0 rfl) ?_
  refine lv_iload_n hx hb dX0_countPairs_1 rfl (lv_at hl 1 rfl) ?_
  obtain ⟨r1, hk2, h⟩ := dm_b1s h
  refine mc_i (wr := []) (va_runV (As := [.int p0]) (rest := []) ⟨hx, hb, hml, hown, hts⟩ (c_X0_has l dC dI cyI cyJ cyC th tqa tqb tqc tzh s.heap.size tfa tfb tfc tdd tsz tzra tzrb tzrc tzrp tzrq tzrr tzrs tzrd p0 r1 hk2) (cwV 1 hts gX0_countPairs_X0_has rfl rfl rfl (by decide +kernel) ⟨(Nat.le_of_ble_eq_true rfl), (Nat.le_of_ble_eq_true rfl)⟩) (mc_preV hK (hP.sub (ws' := [(th, .inr (0, [.ref tqa, .ref tqb, .ref tqc, .ref tzh, .int tdd, .int tsz])), (tqa, .inl (cyI, 40, .inl tfa)), (tqb, .inl (cyI, 40, .inl tfb)), (tqc, .inl (cyI, 40, .inl tfc)), (tzh, .inr (1, [.int tzra, .int tzrb, .int tzrc, .int tzrp, .int tzrq, .int tzrr, .int tzrs, .int tzrd]))]) [0, 1, 2, 3, 4] rfl) (hD.sub (ws' := [(th, .inr (0, [.ref tqa, .ref tqb, .ref tqc, .ref tzh, .int tdd, .int tsz])), (tqa, .inl (cyI, 40, .inl tfa)), (tqb, .inl (cyI, 40, .inl tfb)), (tqc, .inl (cyI, 40, .inl tfc)), (tzh, .inr (1, [.int tzra, .int tzrb, .int tzrc, .int tzrp, .int tzrq, .int tzrr, .int tzrs, .int tzrd]))]) [0, 1, 2, 3, 4] (by decide) rfl) hnw rfl rfl) rfl rfl hl.1 rfl (lv_room (Nat.le_of_ble_eq_true rfl)) dX0_countPairs_2 ⟨Nat.zero_le _, Nat.zero_le _⟩) hP hD hS hA [0, 1, 2, 3, 4] [] rfl rfl rfl (by decide) (fun H locs hP hD hS => ?_)
  have hP : va_P (dC, dI) vwCl [(th, .inr (0, [.ref tqa, .ref tqb, .ref tqc, .ref tzh, .int tdd, .int tsz])), (tqa, .inl (cyI, 40, .inl tfa)), (tqb, .inl (cyI, 40, .inl tfb)), (tqc, .inl (cyI, 40, .inl tfc)), (tzh, .inr (1, [.int tzra, .int tzrb, .int tzrc, .int tzrp, .int tzrq, .int tzrr, .int tzrs, .int tzrd]))] H := hP
  have hD : va_D A [(th, .inr (0, [.ref tqa, .ref tqb, .ref tqc, .ref tzh, .int tdd, .int tsz])), (tqa, .inl (cyI, 40, .inl tfa)), (tqb, .inl (cyI, 40, .inl tfb)), (tqc, .inl (cyI, 40, .inl tfc)), (tzh, .inr (1, [.int tzra, .int tzrb, .int tzrc, .int tzrp, .int tzrq, .int tzrr, .int tzrs, .int tzrd]))] := hD
  refine lv_if_ne (tgt := 10) hx hb dX0_countPairs_5 (by decide) (fun hc3 => ?_) (fun hc3 => ?_)
  · have h := dm_f hc3 h
    refine lv_iconst (v := 0) hx hb dX0_countPairs_10 (by decide) ?_
    refine lv_istore (lv' := [(4, .int (0 : Int32)), (0, .ref th), (1, .int p0), (2, .int p1), (3, .int p2)]) hx hb dX0_countPairs_11 hl (by decide) rfl (fun ls hl => ?_)
    refine lv_iconst (v := 0) hx hb dX0_countPairs_13 (by decide) ?_
    refine lv_istore (lv' := [(5, .int (0 : Int32)), (4, .int (0 : Int32)), (0, .ref th), (1, .int p0), (2, .int p1), (3, .int p2)]) hx hb dX0_countPairs_14 hl (by decide) rfl (fun ls hl => ?_)
    have L16 : ∀ (n16 : Nat) (v4 : Int32) (v5 : Int32) (H : Heap) (locs : List Loc) (ls : Array Slot), f_X0_countPairs_L16 tfa tfb tdd p0 p1 p2 n16 v4 v5 = some rv → va_P (dC, dI) vwCl [(th, .inr (0, [.ref tqa, .ref tqb, .ref tqc, .ref tzh, .int tdd, .int tsz])), (tqa, .inl (cyI, 40, .inl tfa)), (tqb, .inl (cyI, 40, .inl tfb)), (tqc, .inl (cyI, 40, .inl tfc)), (tzh, .inr (1, [.int tzra, .int tzrb, .int tzrc, .int tzrp, .int tzrq, .int tzrr, .int tzrs, .int tzrd]))] H → va_D A [(th, .inr (0, [.ref tqa, .ref tqb, .ref tqc, .ref tzh, .int tdd, .int tsz])), (tqa, .inl (cyI, 40, .inl tfa)), (tqb, .inl (cyI, 40, .inl tfb)), (tqc, .inl (cyI, 40, .inl tfc)), (tzh, .inr (1, [.int tzra, .int tzrb, .int tzrc, .int tzrp, .int tzrq, .int tzrr, .int tzrs, .int tzrd]))] → va_S A s.heap H locs → lv_has ls 8 [(5, .int v4), (4, .int v5), (0, .ref th), (1, .int p0), (2, .int p1), (3, .int p2)] → W p l e (headSpec wsX0_countPairs { frames := 4, cells := 0, slots := 0, locals := 89 }).room s m ([Value.ref th, Value.int p0, Value.int p1, Value.int p2] : List Value).toArray below meth c H locs 0 0 QQ (F0 m 16 ls []) := by
      intro n16
      induction n16 with
      | zero =>
        intro v4 v5 H locs ls h
        exact nomatch (show (none : Option (Int32)) = some _ from h)
      | succ n16 ih16 =>
        intro v4 v5 H locs ls h hP hD hS hl
        rw [f_X0_countPairs_L16] at h
        refine lv_iload hx hb dX0_countPairs_16 (lv_at hl 0 rfl) ?_
        refine lv_iload_n hx hb dX0_countPairs_18 rfl (lv_at hl 4 rfl) ?_
        refine lv_icmp_gt (tgt := 90) hx hb dX0_countPairs_19 (by decide) (fun hc6 => ?_) (fun hc6 => ?_)
        · have h := dm_t hc6 h
          refine lv_iload hx hb dX0_countPairs_90 (lv_at hl 1 rfl) ?_
          obtain hE0 := dm_i1 h
          subst hE0
          rw [hQQ]
          have hP9 := hP.sub (ws' := [(th, .inr (0, [.ref tqa, .ref tqb, .ref tqc, .ref tzh, .int tdd, .int tsz])), (tqa, .inl (cyI, 40, .inl tfa)), (tqb, .inl (cyI, 40, .inl tfb)), (tqc, .inl (cyI, 40, .inl tfc)), (tzh, .inr (1, [.int tzra, .int tzrb, .int tzrc, .int tzrp, .int tzrq, .int tzrr, .int tzrs, .int tzrd]))]) [0, 1, 2, 3, 4] rfl
          have hD9 := hD.sub (ws' := [(th, .inr (0, [.ref tqa, .ref tqb, .ref tqc, .ref tzh, .int tdd, .int tsz])), (tqa, .inl (cyI, 40, .inl tfa)), (tqb, .inl (cyI, 40, .inl tfb)), (tqc, .inl (cyI, 40, .inl tfc)), (tzh, .inr (1, [.int tzra, .int tzrb, .int tzrc, .int tzrp, .int tzrq, .int tzrr, .int tzrs, .int tzrd]))]) [0, 1, 2, 3, 4] (by decide) rfl
          exact W.iret (v := v5) hx hb hr (fun t ht hW => ⟨⟨v5, (), rfl, rfl, by rw [ht]; exact hP9, hD9⟩, hS.F ht⟩) hS.2.2 dX0_countPairs_92
        · have h := dm_f hc6 h
          refine lv_iconst (v := 4) hx hb dX0_countPairs_22 (by decide) ?_
          refine lv_aload_n hx hb dX0_countPairs_23 rfl (lv_at hl 2 rfl) ?_
          refine va_get (D := (dC, dI)) (ci := 0) (v := .ref tqa) (C := RX0) (T := TX0) (N := 6) hx hb hts hinX0 hown hK hP 0 rfl rfl 0 (by decide) (hts (.fieldLink RX0 9 "FormDesk$ClassList" "a" "[I") (by decide +kernel)) (fun _ h9 => h9) rfl dX0_countPairs_24 ?_
          refine lv_iload_n hx hb dX0_countPairs_27 rfl (lv_at hl 3 rfl) ?_
          obtain ⟨hn7, h⟩ := dm_gs h
          refine va_iald hx hb hK hP 1 0 rfl rfl hn7 dX0_countPairs_28 ?_
          refine lv_imul hx hb dX0_countPairs_29 ?_
          refine lv_iload_n hx hb dX0_countPairs_30 rfl (lv_at hl 4 rfl) ?_
          refine lv_imul hx hb dX0_countPairs_31 ?_
          refine lv_aload_n hx hb dX0_countPairs_32 rfl (lv_at hl 2 rfl) ?_
          refine va_get (D := (dC, dI)) (ci := 0) (v := .int tdd) (C := RX0) (T := TX0) (N := 6) hx hb hts hinX0 hown hK hP 0 rfl rfl 4 (by decide) (hts (.fieldLink RX0 28 "FormDesk$ClassList" "discriminant" "I") (by decide +kernel)) (fun _ h9 => h9) rfl dX0_countPairs_33 ?_
          refine lv_iload hx hb dX0_countPairs_36 (lv_at hl 0 rfl) ?_
          refine lv_imul hx hb dX0_countPairs_38 ?_
          refine lv_iload hx hb dX0_countPairs_39 (lv_at hl 0 rfl) ?_
          refine lv_imul hx hb dX0_countPairs_41 ?_
          refine lv_iadd hx hb dX0_countPairs_42 ?_
          refine lv_topi (fun x8 ex8 => ?_)
          have h := dm_lu ex8 h
          refine lv_istore (lv' := [(6, .int x8), (5, .int v4), (4, .int v5), (0, .ref th), (1, .int p0), (2, .int p1), (3, .int p2)]) hx hb dX0_countPairs_43 hl (by decide) rfl (fun ls hl => ?_)
          refine lv_iload hx hb dX0_countPairs_45 (lv_at hl 0 rfl) ?_
          refine lv_if_ge (tgt := 53) hx hb dX0_countPairs_47 (by decide) (fun hc9 => ?_) (fun hc9 => ?_)
          · have h := dm_t hc9 h
            refine lv_aload_n hx hb dX0_countPairs_53 rfl (lv_at hl 3 rfl) ?_
            refine lv_iload_n hx hb dX0_countPairs_54 rfl (lv_at hl 4 rfl) ?_
            refine lv_iload hx hb dX0_countPairs_55 (lv_at hl 1 rfl) ?_
            refine lv_iload hx hb dX0_countPairs_57 (lv_at hl 0 rfl) ?_
            refine lv_iload_n hx hb dX0_countPairs_59 rfl (lv_at hl 6 rfl) ?_
            obtain ⟨r10, hk11, h⟩ := dm_b1s h
            refine mc_i (wr := []) (va_runV (As := [.int p0, .int v4, .int x8, .int p2]) (rest := []) ⟨hx, hb, hml, hown, hts⟩ (c_X0_countInRow l dC dI cyI cyJ cyC th tqa tqb tqc tzh H.size tfa tfb tfc tdd tsz tzra tzrb tzrc tzrp tzrq tzrr tzrs tzrd p0 v4 x8 p2 r10 hk11) (cwV 4 hts gX0_countPairs_X0_countInRow rfl rfl rfl (by decide +kernel) ⟨(Nat.le_of_ble_eq_true rfl), (Nat.le_of_ble_eq_true rfl)⟩) (mc_preV hK (hP.sub (ws' := [(th, .inr (0, [.ref tqa, .ref tqb, .ref tqc, .ref tzh, .int tdd, .int tsz])), (tqa, .inl (cyI, 40, .inl tfa)), (tqb, .inl (cyI, 40, .inl tfb)), (tqc, .inl (cyI, 40, .inl tfc)), (tzh, .inr (1, [.int tzra, .int tzrb, .int tzrc, .int tzrp, .int tzrq, .int tzrr, .int tzrs, .int tzrd]))]) [0, 1, 2, 3, 4] rfl) (hD.sub (ws' := [(th, .inr (0, [.ref tqa, .ref tqb, .ref tqc, .ref tzh, .int tdd, .int tsz])), (tqa, .inl (cyI, 40, .inl tfa)), (tqb, .inl (cyI, 40, .inl tfb)), (tqc, .inl (cyI, 40, .inl tfc)), (tzh, .inr (1, [.int tzra, .int tzrb, .int tzrc, .int tzrp, .int tzrq, .int tzrr, .int tzrs, .int tzrd]))]) [0, 1, 2, 3, 4] (by decide) rfl) hnw rfl rfl) rfl rfl hl.1 rfl (lv_room (Nat.le_of_ble_eq_true rfl)) dX0_countPairs_60 ⟨Nat.zero_le _, Nat.zero_le _⟩) hP hD hS hA [0, 1, 2, 3, 4] [] rfl rfl rfl (by decide) (fun H locs hP hD hS => ?_)
            have hP : va_P (dC, dI) vwCl [(th, .inr (0, [.ref tqa, .ref tqb, .ref tqc, .ref tzh, .int tdd, .int tsz])), (tqa, .inl (cyI, 40, .inl tfa)), (tqb, .inl (cyI, 40, .inl tfb)), (tqc, .inl (cyI, 40, .inl tfc)), (tzh, .inr (1, [.int tzra, .int tzrb, .int tzrc, .int tzrp, .int tzrq, .int tzrr, .int tzrs, .int tzrd]))] H := hP
            have hD : va_D A [(th, .inr (0, [.ref tqa, .ref tqb, .ref tqc, .ref tzh, .int tdd, .int tsz])), (tqa, .inl (cyI, 40, .inl tfa)), (tqb, .inl (cyI, 40, .inl tfb)), (tqc, .inl (cyI, 40, .inl tfc)), (tzh, .inr (1, [.int tzra, .int tzrb, .int tzrc, .int tzrp, .int tzrq, .int tzrr, .int tzrs, .int tzrd]))] := hD
            refine lv_istore (lv' := [(7, .int r10), (6, .int x8), (5, .int v4), (4, .int v5), (0, .ref th), (1, .int p0), (2, .int p1), (3, .int p2)]) hx hb dX0_countPairs_63 hl (by decide) rfl (fun ls hl => ?_)
            refine lv_iload hx hb dX0_countPairs_65 (lv_at hl 3 rfl) ?_
            refine lv_iload hx hb dX0_countPairs_67 (lv_at hl 2 rfl) ?_
            refine lv_if_ne (tgt := 77) hx hb dX0_countPairs_69 (by decide) (fun hc12 => ?_) (fun hc12 => ?_)
            · have h := dm_f hc12 h
              refine lv_iconst (v := 2) hx hb dX0_countPairs_77 (by decide) ?_
              refine lv_iload hx hb dX0_countPairs_78 (lv_at hl 0 rfl) ?_
              refine lv_imul hx hb dX0_countPairs_80 ?_
              refine lv_iadd hx hb dX0_countPairs_81 ?_
              refine lv_topi (fun x13 ex13 => ?_)
              have h := dm_lu ex13 h
              refine lv_istore (lv' := [(4, .int x13), (7, .int r10), (6, .int x8), (5, .int v4), (0, .ref th), (1, .int p0), (2, .int p1), (3, .int p2)]) hx hb dX0_countPairs_82 hl (by decide) rfl (fun ls hl => ?_)
              obtain ⟨x14, ex14⟩ : ∃ y : Int32, y = (v4 + (1 : Int32)) := ⟨_, rfl⟩
              have h := dm_lu ex14 h
              refine lv_iinc (v := x14) (lv' := [(5, .int x14), (4, .int x13), (7, .int r10), (6, .int x8), (0, .ref th), (1, .int p0), (2, .int p1), (3, .int p2)]) hx hb dX0_countPairs_84 hl (k := 3) rfl (by rw [ex14]; rfl) (by decide) rfl (fun ls hl => ?_)
              refine lv_goto (tgt := 16) hx hb dX0_countPairs_87 (by decide) ?_
              exact ih16 x14 x13 H _ ls h (hP.sub [0, 1, 2, 3, 4] rfl) (hD.sub [0, 1, 2, 3, 4] (by decide) rfl) hS (lv_sub hl [0, 1, 4, 5, 6, 7] rfl)
            · have h := dm_t hc12 h
              refine lv_iload hx hb dX0_countPairs_72 (lv_at hl 0 rfl) ?_
              refine lv_goto (tgt := 81) hx hb dX0_countPairs_74 (by decide) ?_
              refine lv_iadd hx hb dX0_countPairs_81 ?_
              refine lv_topi (fun x15 ex15 => ?_)
              have h := dm_lu ex15 h
              refine lv_istore (lv' := [(4, .int x15), (7, .int r10), (6, .int x8), (5, .int v4), (0, .ref th), (1, .int p0), (2, .int p1), (3, .int p2)]) hx hb dX0_countPairs_82 hl (by decide) rfl (fun ls hl => ?_)
              obtain ⟨x16, ex16⟩ : ∃ y : Int32, y = (v4 + (1 : Int32)) := ⟨_, rfl⟩
              have h := dm_lu ex16 h
              refine lv_iinc (v := x16) (lv' := [(5, .int x16), (4, .int x15), (7, .int r10), (6, .int x8), (0, .ref th), (1, .int p0), (2, .int p1), (3, .int p2)]) hx hb dX0_countPairs_84 hl (k := 3) rfl (by rw [ex16]; rfl) (by decide) rfl (fun ls hl => ?_)
              refine lv_goto (tgt := 16) hx hb dX0_countPairs_87 (by decide) ?_
              exact ih16 x16 x15 H _ ls h (hP.sub [0, 1, 2, 3, 4] rfl) (hD.sub [0, 1, 2, 3, 4] (by decide) rfl) hS (lv_sub hl [0, 1, 4, 5, 6, 7] rfl)
          · have h := dm_f hc9 h
            refine lv_goto (tgt := 90) hx hb dX0_countPairs_50 (by decide) ?_
            refine lv_iload hx hb dX0_countPairs_90 (lv_at hl 2 rfl) ?_
            obtain hE0 := dm_i1 h
            subst hE0
            rw [hQQ]
            have hP9 := hP.sub (ws' := [(th, .inr (0, [.ref tqa, .ref tqb, .ref tqc, .ref tzh, .int tdd, .int tsz])), (tqa, .inl (cyI, 40, .inl tfa)), (tqb, .inl (cyI, 40, .inl tfb)), (tqc, .inl (cyI, 40, .inl tfc)), (tzh, .inr (1, [.int tzra, .int tzrb, .int tzrc, .int tzrp, .int tzrq, .int tzrr, .int tzrs, .int tzrd]))]) [0, 1, 2, 3, 4] rfl
            have hD9 := hD.sub (ws' := [(th, .inr (0, [.ref tqa, .ref tqb, .ref tqc, .ref tzh, .int tdd, .int tsz])), (tqa, .inl (cyI, 40, .inl tfa)), (tqb, .inl (cyI, 40, .inl tfb)), (tqc, .inl (cyI, 40, .inl tfc)), (tzh, .inr (1, [.int tzra, .int tzrb, .int tzrc, .int tzrp, .int tzrq, .int tzrr, .int tzrs, .int tzrd]))]) [0, 1, 2, 3, 4] (by decide) rfl
            exact W.iret (v := v5) hx hb hr (fun t ht hW => ⟨⟨v5, (), rfl, rfl, by rw [ht]; exact hP9, hD9⟩, hS.F ht⟩) hS.2.2 dX0_countPairs_92
    exact L16 100000 (0 : Int32) (0 : Int32) H _ ls h hP hD hS hl
  · have h := dm_t hc3 h
    refine lv_iconst (v := 0) hx hb dX0_countPairs_8 (by decide) ?_
    obtain hE0 := dm_i1 h
    subst hE0
    rw [hQQ]
    have hP9 := hP.sub (ws' := [(th, .inr (0, [.ref tqa, .ref tqb, .ref tqc, .ref tzh, .int tdd, .int tsz])), (tqa, .inl (cyI, 40, .inl tfa)), (tqb, .inl (cyI, 40, .inl tfb)), (tqc, .inl (cyI, 40, .inl tfc)), (tzh, .inr (1, [.int tzra, .int tzrb, .int tzrc, .int tzrp, .int tzrq, .int tzrr, .int tzrs, .int tzrd]))]) [0, 1, 2, 3, 4] rfl
    have hD9 := hD.sub (ws' := [(th, .inr (0, [.ref tqa, .ref tqb, .ref tqc, .ref tzh, .int tdd, .int tsz])), (tqa, .inl (cyI, 40, .inl tfa)), (tqb, .inl (cyI, 40, .inl tfb)), (tqc, .inl (cyI, 40, .inl tfc)), (tzh, .inr (1, [.int tzra, .int tzrb, .int tzrc, .int tzrp, .int tzrq, .int tzrr, .int tzrs, .int tzrd]))]) [0, 1, 2, 3, 4] (by decide) rfl
    exact W.iret (v := (0 : Int32)) hx hb hr (fun t ht hW => ⟨⟨(0 : Int32), (), rfl, rfl, by rw [ht]; exact hP9, hD9⟩, hS.F ht⟩) hS.2.2 dX0_countPairs_9

def f_X0_leastCoprimeValue_L2 (tfa : Nat → Int32) (tfb : Nat → Int32) (tdd : Int32) (tsz : Int32) (p0 : Int32) (p1 : Int32)  : Nat → Int32 → Option (Int32)
  | 0, _ => none
  | n + 1, v1 =>
    if (100000 : Int32) < v1 then
      some (-1 : Int32)
    else
      dm_b1 (f_X3_gcd v1 p1) fun r3 =>
      if r3 = (1 : Int32) then
        dm_b1 (f_X0_countPairs tfa tfb tdd tsz p0 v1 (1 : Int32)) fun r7 =>
        if r7 ≤ 0 then
          dm_let (v1 + (1 : Int32)) fun x10 =>
          f_X0_leastCoprimeValue_L2 tfa tfb tdd tsz p0 p1 n x10
        else
          some v1
      else
        dm_let (v1 + (1 : Int32)) fun x6 =>
        f_X0_leastCoprimeValue_L2 tfa tfb tdd tsz p0 p1 n x6
def f_X0_leastCoprimeValue (tfa : Nat → Int32) (tfb : Nat → Int32) (tdd : Int32) (tsz : Int32) (p0 : Int32) (p1 : Int32) : Option (Int32) :=
  f_X0_leastCoprimeValue_L2 tfa tfb tdd tsz p0 p1 100000 (1 : Int32)
set_option maxHeartbeats 4000000 in
set_option maxRecDepth 100000 in
theorem c_X0_leastCoprimeValue (l : Launch) (dC : Nat → ClassId) (dI : Nat → Nat → Nat) (cyI cyJ cyC : ClassId) (th tqa tqb tqc tzh : Nat) (sz : Nat) (tfa : Nat → Int32) (tfb : Nat → Int32) (tfc : Nat → Int32) (tdd : Int32) (tsz : Int32) (tzra : Int32) (tzrb : Int32) (tzrc : Int32) (tzrp : Int32) (tzrq : Int32) (tzrr : Int32) (tzrs : Int32) (tzrd : Int32) (p0 : Int32) (p1 : Int32) (rv : Int32) (hf : f_X0_leastCoprimeValue tfa tfb tdd tsz p0 p1 = some rv) : Met l yX0_leastCoprimeValue wsX0_leastCoprimeValue { frames := 5, cells := 0, slots := 0, locals := 116 } (va_Pc [.ref th, .int p0, .int p1] (mc_Pre (dC, dI) (mc_tys cyI cyJ cyC) [(th, .inr (0, [.ref tqa, .ref tqb, .ref tqc, .ref tzh, .int tdd, .int tsz])), (tqa, .inl (cyI, 40, .inl tfa)), (tqb, .inl (cyI, 40, .inl tfb)), (tqc, .inl (cyI, 40, .inl tfc)), (tzh, .inr (1, [.int tzra, .int tzrb, .int tzrc, .int tzrp, .int tzrq, .int tzrr, .int tzrs, .int tzrd]))] sz)) (va_Qi (fun r (_ : Unit) => r = rv) (fun _ t => mc_Post (dC, dI) (va_A [(th, .inr (0, [.ref tqa, .ref tqb, .ref tqc, .ref tzh, .int tdd, .int tsz])), (tqa, .inl (cyI, 40, .inl tfa)), (tqb, .inl (cyI, 40, .inl tfb)), (tqc, .inl (cyI, 40, .inl tfc)), (tzh, .inr (1, [.int tzra, .int tzrb, .int tzrc, .int tzrp, .int tzrq, .int tzrr, .int tzrs, .int tzrd]))] sz) [(th, .inr (0, [.ref tqa, .ref tqb, .ref tqc, .ref tzh, .int tdd, .int tsz])), (tqa, .inl (cyI, 40, .inl tfa)), (tqb, .inl (cyI, 40, .inl tfb)), (tqc, .inl (cyI, 40, .inl tfc)), (tzh, .inr (1, [.int tzra, .int tzrb, .int tzrc, .int tzrp, .int tzrq, .int tzrr, .int tzrs, .int tzrd]))] t) (va_A [(th, .inr (0, [.ref tqa, .ref tqb, .ref tqc, .ref tzh, .int tdd, .int tsz])), (tqa, .inl (cyI, 40, .inl tfa)), (tqb, .inl (cyI, 40, .inl tfb)), (tqc, .inl (cyI, 40, .inl tfc)), (tzh, .inr (1, [.int tzra, .int tzrb, .int tzrc, .int tzrp, .int tzrq, .int tzrr, .int tzrs, .int tzrd]))] sz)) 0 0 (va_A [(th, .inr (0, [.ref tqa, .ref tqb, .ref tqc, .ref tzh, .int tdd, .int tsz])), (tqa, .inl (cyI, 40, .inl tfa)), (tqb, .inl (cyI, 40, .inl tfb)), (tqc, .inl (cyI, 40, .inl tfc)), (tzh, .inr (1, [.int tzra, .int tzrb, .int tzrc, .int tzrp, .int tzrq, .int tzrr, .int tzrs, .int tzrd]))] sz) := by
  refine Met.ofW (cc := cX0_leastCoprimeValue) (maxL := 4) (ret := (some .int)) (by decide +kernel) rfl ?_
  intro p e s m args below meth c s₁ B hml hv
  obtain ⟨rfl, hsz, hP, hK, hD0, hnw⟩ := hv
  have hx := B.exec
  have hb := B.bytes
  have hr := B.returns
  have hts := atoms_spec (ws := wsX0_leastCoprimeValue) B.pre
  have hown : s.vm.findClass RX0 = some m.cls := findClass_of_methodNamed B.named
  have hlocks := B.notSynchronized
  subst hsz
  have hD := hD0.self (sz := s.heap.size)
  generalize hAe : va_A [(th, .inr (0, [.ref tqa, .ref tqb, .ref tqc, .ref tzh, .int tdd, .int tsz])), (tqa, .inl (cyI, 40, .inl tfa)), (tqb, .inl (cyI, 40, .inl tfb)), (tqc, .inl (cyI, 40, .inl tfc)), (tzh, .inr (1, [.int tzra, .int tzrb, .int tzrc, .int tzrp, .int tzrq, .int tzrr, .int tzrs, .int tzrd]))] s.heap.size = A at hD ⊢
  have hA : ∀ q : Nat, s.heap.size ≤ q → A q := fun q h => by rw [← hAe]; exact Or.inr h
  have hS : va_S A s.heap s.heap [] := va_S.rf
  have hP : va_P (dC, dI) vwCl [(th, .inr (0, [.ref tqa, .ref tqb, .ref tqc, .ref tzh, .int tdd, .int tsz])), (tqa, .inl (cyI, 40, .inl tfa)), (tqb, .inl (cyI, 40, .inl tfb)), (tqc, .inl (cyI, 40, .inl tfc)), (tzh, .inr (1, [.int tzra, .int tzrb, .int tzrc, .int tzrp, .int tzrq, .int tzrr, .int tzrs, .int tzrd]))] s.heap := hP
  have hl := lv_entry ([.ref th, .int p0, .int p1]) (n := 4) (Nat.le_of_ble_eq_true rfl)
  rw [lg_entry_eq]
  generalize (lg_sl ([.ref th, .int p0, .int p1]) ++ List.replicate (4 - (lg_sl ([.ref th, .int p0, .int p1])).length) Slot.unset).toArray = ls at hl ⊢
  have hl : lv_has ls 4 [(0, .ref th), (1, .int p0), (2, .int p1)] := hl
  obtain ⟨QQ, hQQ⟩ : ∃ Q, Q = MQ below (va_Qi (fun r (_ : Unit) => r = rv) (fun _ t => mc_Post (dC, dI) A [(th, .inr (0, [.ref tqa, .ref tqb, .ref tqc, .ref tzh, .int tdd, .int tsz])), (tqa, .inl (cyI, 40, .inl tfa)), (tqb, .inl (cyI, 40, .inl tfb)), (tqc, .inl (cyI, 40, .inl tfc)), (tzh, .inr (1, [.int tzra, .int tzrb, .int tzrc, .int tzrp, .int tzrq, .int tzrr, .int tzrs, .int tzrd]))] t) A) ([Value.ref th, Value.int p0, Value.int p1] : List Value).toArray s 0 0 A := ⟨_, rfl⟩
  rw [← hQQ]
  have h := hf
  unfold f_X0_leastCoprimeValue at h
  refine lv_iconst (v := 1) hx hb dX0_leastCoprimeValue_0 (by decide) ?_
  refine lv_istore_n (lv' := [(3, .int (1 : Int32)), (0, .ref th), (1, .int p0), (2, .int p1)]) hx hb dX0_leastCoprimeValue_1 rfl hl (by decide) rfl (fun ls hl => ?_)
  have L2 : ∀ (n2 : Nat) (v1 : Int32) (H : Heap) (locs : List Loc) (ls : Array Slot), f_X0_leastCoprimeValue_L2 tfa tfb tdd tsz p0 p1 n2 v1 = some rv → va_P (dC, dI) vwCl [(th, .inr (0, [.ref tqa, .ref tqb, .ref tqc, .ref tzh, .int tdd, .int tsz])), (tqa, .inl (cyI, 40, .inl tfa)), (tqb, .inl (cyI, 40, .inl tfb)), (tqc, .inl (cyI, 40, .inl tfc)), (tzh, .inr (1, [.int tzra, .int tzrb, .int tzrc, .int tzrp, .int tzrq, .int tzrr, .int tzrs, .int tzrd]))] H → va_D A [(th, .inr (0, [.ref tqa, .ref tqb, .ref tqc, .ref tzh, .int tdd, .int tsz])), (tqa, .inl (cyI, 40, .inl tfa)), (tqb, .inl (cyI, 40, .inl tfb)), (tqc, .inl (cyI, 40, .inl tfc)), (tzh, .inr (1, [.int tzra, .int tzrb, .int tzrc, .int tzrp, .int tzrq, .int tzrr, .int tzrs, .int tzrd]))] → va_S A s.heap H locs → lv_has ls 4 [(3, .int v1), (0, .ref th), (1, .int p0), (2, .int p1)] → W p l e (headSpec wsX0_leastCoprimeValue { frames := 5, cells := 0, slots := 0, locals := 116 }).room s m ([Value.ref th, Value.int p0, Value.int p1] : List Value).toArray below meth c H locs 0 0 QQ (F0 m 2 ls []) := by
    intro n2
    induction n2 with
    | zero =>
      intro v1 H locs ls h
      exact nomatch (show (none : Option (Int32)) = some _ from h)
    | succ n2 ih2 =>
      intro v1 H locs ls h hP hD hS hl
      rw [f_X0_leastCoprimeValue_L2] at h
      refine lv_iload_n hx hb dX0_leastCoprimeValue_2 rfl (lv_at hl 0 rfl) ?_
      refine lv_ldc (v := 100000) hx hb hown (hts (.constant RX0 84 (100000)) (by decide +kernel)) dX0_leastCoprimeValue_3 ?_
      refine lv_icmp_gt (tgt := 35) hx hb dX0_leastCoprimeValue_5 (by decide) (fun hc2 => ?_) (fun hc2 => ?_)
      · have h := dm_t hc2 h
        refine lv_iconst (v := -1) hx hb dX0_leastCoprimeValue_35 (by decide) ?_
        obtain hE0 := dm_i1 h
        subst hE0
        rw [hQQ]
        have hP9 := hP.sub (ws' := [(th, .inr (0, [.ref tqa, .ref tqb, .ref tqc, .ref tzh, .int tdd, .int tsz])), (tqa, .inl (cyI, 40, .inl tfa)), (tqb, .inl (cyI, 40, .inl tfb)), (tqc, .inl (cyI, 40, .inl tfc)), (tzh, .inr (1, [.int tzra, .int tzrb, .int tzrc, .int tzrp, .int tzrq, .int tzrr, .int tzrs, .int tzrd]))]) [0, 1, 2, 3, 4] rfl
        have hD9 := hD.sub (ws' := [(th, .inr (0, [.ref tqa, .ref tqb, .ref tqc, .ref tzh, .int tdd, .int tsz])), (tqa, .inl (cyI, 40, .inl tfa)), (tqb, .inl (cyI, 40, .inl tfb)), (tqc, .inl (cyI, 40, .inl tfc)), (tzh, .inr (1, [.int tzra, .int tzrb, .int tzrc, .int tzrp, .int tzrq, .int tzrr, .int tzrs, .int tzrd]))]) [0, 1, 2, 3, 4] (by decide) rfl
        exact W.iret (v := (-1 : Int32)) hx hb hr (fun t ht hW => ⟨⟨(-1 : Int32), (), rfl, rfl, by rw [ht]; exact hP9, hD9⟩, hS.F ht⟩) hS.2.2 dX0_leastCoprimeValue_36
      · have h := dm_f hc2 h
        refine lv_iload_n hx hb dX0_leastCoprimeValue_8 rfl (lv_at hl 0 rfl) ?_
        refine lv_iload_n hx hb dX0_leastCoprimeValue_9 rfl (lv_at hl 3 rfl) ?_
        obtain ⟨r3, hk4, h⟩ := dm_b1s h
        refine mc_i (wr := [(th, .inr (0, [.ref tqa, .ref tqb, .ref tqc, .ref tzh, .int tdd, .int tsz])), (tqa, .inl (cyI, 40, .inl tfa)), (tqb, .inl (cyI, 40, .inl tfb)), (tqc, .inl (cyI, 40, .inl tfc)), (tzh, .inr (1, [.int tzra, .int tzrb, .int tzrc, .int tzrp, .int tzrq, .int tzrr, .int tzrs, .int tzrd]))]) (va_runSN (As := [.int v1, .int p1]) (rest := []) ⟨hx, hb, hml, hown, hts⟩ (c_X3_gcd l dC dI cyI cyJ cyC H.size v1 p1 r3 hk4) ⟨va_cnB 2 hts gX0_leastCoprimeValue_X3_gcd_n43 rfl rfl rfl (hnw _ (by decide +kernel : Cond.methodLinkNest RX0 43 yX3_gcd "FormDesk" ∈ mc_nws)) (hts (.initialized RX3) (by decide +kernel)) (by decide +kernel) ⟨(Nat.le_of_ble_eq_true rfl), (Nat.le_of_ble_eq_true rfl)⟩, hts (.static yX3_gcd) (by decide +kernel), trivial⟩ (mc_preS hK (hP.sub (ws' := []) [] rfl) (hD.sub (ws' := []) [] (by decide) rfl) hnw) rfl rfl hl.1 rfl (lv_room (Nat.le_of_ble_eq_true rfl)) dX0_leastCoprimeValue_10 ⟨Nat.zero_le _, Nat.zero_le _⟩) hP hD hS hA [] [0, 1, 2, 3, 4] rfl rfl rfl (by decide) (fun H locs hP hD hS => ?_)
        have hP : va_P (dC, dI) vwCl [(th, .inr (0, [.ref tqa, .ref tqb, .ref tqc, .ref tzh, .int tdd, .int tsz])), (tqa, .inl (cyI, 40, .inl tfa)), (tqb, .inl (cyI, 40, .inl tfb)), (tqc, .inl (cyI, 40, .inl tfc)), (tzh, .inr (1, [.int tzra, .int tzrb, .int tzrc, .int tzrp, .int tzrq, .int tzrr, .int tzrs, .int tzrd]))] H := hP
        have hD : va_D A [(th, .inr (0, [.ref tqa, .ref tqb, .ref tqc, .ref tzh, .int tdd, .int tsz])), (tqa, .inl (cyI, 40, .inl tfa)), (tqb, .inl (cyI, 40, .inl tfb)), (tqc, .inl (cyI, 40, .inl tfc)), (tzh, .inr (1, [.int tzra, .int tzrb, .int tzrc, .int tzrp, .int tzrq, .int tzrr, .int tzrs, .int tzrd]))] := hD
        refine lv_iconst (v := 1) hx hb dX0_leastCoprimeValue_13 (by decide) ?_
        refine lv_icmp_ne (tgt := 29) hx hb dX0_leastCoprimeValue_14 (by decide) (fun hc5 => ?_) (fun hc5 => ?_)
        · have h := dm_f hc5 h
          obtain ⟨x6, ex6⟩ : ∃ y : Int32, y = (v1 + (1 : Int32)) := ⟨_, rfl⟩
          have h := dm_lu ex6 h
          refine lv_iinc (v := x6) (lv' := [(3, .int x6), (0, .ref th), (1, .int p0), (2, .int p1)]) hx hb dX0_leastCoprimeValue_29 hl (k := 0) rfl (by rw [ex6]; rfl) (by decide) rfl (fun ls hl => ?_)
          refine lv_goto (tgt := 2) hx hb dX0_leastCoprimeValue_32 (by decide) ?_
          exact ih2 x6 H _ ls h (hP.sub [0, 1, 2, 3, 4] rfl) (hD.sub [0, 1, 2, 3, 4] (by decide) rfl) hS (lv_sub hl [0, 1, 2, 3] rfl)
        · have h := dm_t hc5 h
          refine lv_aload_n hx hb dX0_leastCoprimeValue_17 rfl (lv_at hl 1 rfl) ?_
          refine lv_iload_n hx hb dX0_leastCoprimeValue_18 rfl (lv_at hl 2 rfl) ?_
          refine lv_iload_n hx hb dX0_leastCoprimeValue_19 rfl (lv_at hl 0 rfl) ?_
          refine lv_iconst (v := 1) hx hb dX0_leastCoprimeValue_20 (by decide) ?_
          obtain ⟨r7, hk8, h⟩ := dm_b1s h
          refine mc_i (wr := []) (va_runV (As := [.int p0, .int v1, .int (1 : Int32)]) (rest := []) ⟨hx, hb, hml, hown, hts⟩ (c_X0_countPairs l dC dI cyI cyJ cyC th tqa tqb tqc tzh H.size tfa tfb tfc tdd tsz tzra tzrb tzrc tzrp tzrq tzrr tzrs tzrd p0 v1 (1 : Int32) r7 hk8) (cwV 3 hts gX0_leastCoprimeValue_X0_countPairs rfl rfl rfl (by decide +kernel) ⟨(Nat.le_of_ble_eq_true rfl), (Nat.le_of_ble_eq_true rfl)⟩) (mc_preV hK (hP.sub (ws' := [(th, .inr (0, [.ref tqa, .ref tqb, .ref tqc, .ref tzh, .int tdd, .int tsz])), (tqa, .inl (cyI, 40, .inl tfa)), (tqb, .inl (cyI, 40, .inl tfb)), (tqc, .inl (cyI, 40, .inl tfc)), (tzh, .inr (1, [.int tzra, .int tzrb, .int tzrc, .int tzrp, .int tzrq, .int tzrr, .int tzrs, .int tzrd]))]) [0, 1, 2, 3, 4] rfl) (hD.sub (ws' := [(th, .inr (0, [.ref tqa, .ref tqb, .ref tqc, .ref tzh, .int tdd, .int tsz])), (tqa, .inl (cyI, 40, .inl tfa)), (tqb, .inl (cyI, 40, .inl tfb)), (tqc, .inl (cyI, 40, .inl tfc)), (tzh, .inr (1, [.int tzra, .int tzrb, .int tzrc, .int tzrp, .int tzrq, .int tzrr, .int tzrs, .int tzrd]))]) [0, 1, 2, 3, 4] (by decide) rfl) hnw rfl rfl) rfl rfl hl.1 rfl (lv_room (Nat.le_of_ble_eq_true rfl)) dX0_leastCoprimeValue_21 ⟨Nat.zero_le _, Nat.zero_le _⟩) hP hD hS hA [0, 1, 2, 3, 4] [] rfl rfl rfl (by decide) (fun H locs hP hD hS => ?_)
          have hP : va_P (dC, dI) vwCl [(th, .inr (0, [.ref tqa, .ref tqb, .ref tqc, .ref tzh, .int tdd, .int tsz])), (tqa, .inl (cyI, 40, .inl tfa)), (tqb, .inl (cyI, 40, .inl tfb)), (tqc, .inl (cyI, 40, .inl tfc)), (tzh, .inr (1, [.int tzra, .int tzrb, .int tzrc, .int tzrp, .int tzrq, .int tzrr, .int tzrs, .int tzrd]))] H := hP
          have hD : va_D A [(th, .inr (0, [.ref tqa, .ref tqb, .ref tqc, .ref tzh, .int tdd, .int tsz])), (tqa, .inl (cyI, 40, .inl tfa)), (tqb, .inl (cyI, 40, .inl tfb)), (tqc, .inl (cyI, 40, .inl tfc)), (tzh, .inr (1, [.int tzra, .int tzrb, .int tzrc, .int tzrp, .int tzrq, .int tzrr, .int tzrs, .int tzrd]))] := hD
          refine lv_if_le (tgt := 29) hx hb dX0_leastCoprimeValue_24 (by decide) (fun hc9 => ?_) (fun hc9 => ?_)
          · have h := dm_t hc9 h
            obtain ⟨x10, ex10⟩ : ∃ y : Int32, y = (v1 + (1 : Int32)) := ⟨_, rfl⟩
            have h := dm_lu ex10 h
            refine lv_iinc (v := x10) (lv' := [(3, .int x10), (0, .ref th), (1, .int p0), (2, .int p1)]) hx hb dX0_leastCoprimeValue_29 hl (k := 0) rfl (by rw [ex10]; rfl) (by decide) rfl (fun ls hl => ?_)
            refine lv_goto (tgt := 2) hx hb dX0_leastCoprimeValue_32 (by decide) ?_
            exact ih2 x10 H _ ls h (hP.sub [0, 1, 2, 3, 4] rfl) (hD.sub [0, 1, 2, 3, 4] (by decide) rfl) hS (lv_sub hl [0, 1, 2, 3] rfl)
          · have h := dm_f hc9 h
            refine lv_iload_n hx hb dX0_leastCoprimeValue_27 rfl (lv_at hl 0 rfl) ?_
            obtain hE0 := dm_i1 h
            subst hE0
            rw [hQQ]
            have hP9 := hP.sub (ws' := [(th, .inr (0, [.ref tqa, .ref tqb, .ref tqc, .ref tzh, .int tdd, .int tsz])), (tqa, .inl (cyI, 40, .inl tfa)), (tqb, .inl (cyI, 40, .inl tfb)), (tqc, .inl (cyI, 40, .inl tfc)), (tzh, .inr (1, [.int tzra, .int tzrb, .int tzrc, .int tzrp, .int tzrq, .int tzrr, .int tzrs, .int tzrd]))]) [0, 1, 2, 3, 4] rfl
            have hD9 := hD.sub (ws' := [(th, .inr (0, [.ref tqa, .ref tqb, .ref tqc, .ref tzh, .int tdd, .int tsz])), (tqa, .inl (cyI, 40, .inl tfa)), (tqb, .inl (cyI, 40, .inl tfb)), (tqc, .inl (cyI, 40, .inl tfc)), (tzh, .inr (1, [.int tzra, .int tzrb, .int tzrc, .int tzrp, .int tzrq, .int tzrr, .int tzrs, .int tzrd]))]) [0, 1, 2, 3, 4] (by decide) rfl
            exact W.iret (v := v1) hx hb hr (fun t ht hW => ⟨⟨v1, (), rfl, rfl, by rw [ht]; exact hP9, hD9⟩, hS.F ht⟩) hS.2.2 dX0_leastCoprimeValue_28
  exact L2 100000 (1 : Int32) s.heap _ ls h hP hD hS hl
