def f_X0_middleOfProduct_L33 (p0 : Int32) (p2 : Int32) (p3 : Int32) (x1 : Int32) (x2 : Int32) (x3 : Int32)  : Nat → Int32 → Int32 → Option (Int32)
  | 0, _, _ => none
  | n + 1, v4, v5 =>
    if p2 ≤ v4 then
      some v5
    else
      dm_b1 (f_X3_divides ((2 : Int32) * p2) (v5 - p3)) fun r7 =>
      if r7 = 0 then
        dm_let (v5 + ((2 : Int32) * p0)) fun x10 =>
        dm_let (v4 + (1 : Int32)) fun x11 =>
        f_X0_middleOfProduct_L33 p0 p2 p3 x1 x2 x3 n x11 x10
      else
        dm_b1 (f_X3_divides x3 ((x1 * v5) - x2)) fun r12 =>
        if r12 = 0 then
          dm_let (v5 + ((2 : Int32) * p0)) fun x15 =>
          dm_let (v4 + (1 : Int32)) fun x16 =>
          f_X0_middleOfProduct_L33 p0 p2 p3 x1 x2 x3 n x16 x15
        else
          some v5
def f_X0_middleOfProduct (tdd : Int32) (p0 : Int32) (p1 : Int32) (p2 : Int32) (p3 : Int32) (p4 : Int32) : Option (Int32) :=
  dm_let (p1 + p3) fun x1 =>
  dm_let ((p1 * p3) + tdd) fun x2 =>
  dm_let ((((4 : Int32) * p0) * p2) * p4) fun x3 =>
  f_X0_middleOfProduct_L33 p0 p2 p3 x1 x2 x3 100000 (0 : Int32) p1
set_option maxHeartbeats 4000000 in
set_option maxRecDepth 100000 in
theorem c_X0_middleOfProduct (l : Launch) (dC : Nat → ClassId) (dI : Nat → Nat → Nat) (cyI cyJ cyC : ClassId) (th tqa tqb tqc tzh : Nat) (sz : Nat) (tfa : Nat → Int32) (tfb : Nat → Int32) (tfc : Nat → Int32) (tdd : Int32) (tsz : Int32) (tzra : Int32) (tzrb : Int32) (tzrc : Int32) (tzrp : Int32) (tzrq : Int32) (tzrr : Int32) (tzrs : Int32) (tzrd : Int32) (p0 : Int32) (p1 : Int32) (p2 : Int32) (p3 : Int32) (p4 : Int32) (rv : Int32) (hf : f_X0_middleOfProduct tdd p0 p1 p2 p3 p4 = some rv) : Met l yX0_middleOfProduct wsX0_middleOfProduct { frames := 1, cells := 0, slots := 0, locals := 21 } (va_Pc [.ref th, .int p0, .int p1, .int p2, .int p3, .int p4] (mc_Pre (dC, dI) (mc_tys cyI cyJ cyC) [(th, .inr (0, [.ref tqa, .ref tqb, .ref tqc, .ref tzh, .int tdd, .int tsz])), (tqa, .inl (cyI, 40, .inl tfa)), (tqb, .inl (cyI, 40, .inl tfb)), (tqc, .inl (cyI, 40, .inl tfc)), (tzh, .inr (1, [.int tzra, .int tzrb, .int tzrc, .int tzrp, .int tzrq, .int tzrr, .int tzrs, .int tzrd]))] sz)) (va_Qi (fun r (_ : Unit) => r = rv) (fun _ t => mc_Post (dC, dI) (va_A [(th, .inr (0, [.ref tqa, .ref tqb, .ref tqc, .ref tzh, .int tdd, .int tsz])), (tqa, .inl (cyI, 40, .inl tfa)), (tqb, .inl (cyI, 40, .inl tfb)), (tqc, .inl (cyI, 40, .inl tfc)), (tzh, .inr (1, [.int tzra, .int tzrb, .int tzrc, .int tzrp, .int tzrq, .int tzrr, .int tzrs, .int tzrd]))] sz) [(th, .inr (0, [.ref tqa, .ref tqb, .ref tqc, .ref tzh, .int tdd, .int tsz])), (tqa, .inl (cyI, 40, .inl tfa)), (tqb, .inl (cyI, 40, .inl tfb)), (tqc, .inl (cyI, 40, .inl tfc)), (tzh, .inr (1, [.int tzra, .int tzrb, .int tzrc, .int tzrp, .int tzrq, .int tzrr, .int tzrs, .int tzrd]))] t) (va_A [(th, .inr (0, [.ref tqa, .ref tqb, .ref tqc, .ref tzh, .int tdd, .int tsz])), (tqa, .inl (cyI, 40, .inl tfa)), (tqb, .inl (cyI, 40, .inl tfb)), (tqc, .inl (cyI, 40, .inl tfc)), (tzh, .inr (1, [.int tzra, .int tzrb, .int tzrc, .int tzrp, .int tzrq, .int tzrr, .int tzrs, .int tzrd]))] sz)) 0 0 (va_A [(th, .inr (0, [.ref tqa, .ref tqb, .ref tqc, .ref tzh, .int tdd, .int tsz])), (tqa, .inl (cyI, 40, .inl tfa)), (tqb, .inl (cyI, 40, .inl tfb)), (tqc, .inl (cyI, 40, .inl tfc)), (tzh, .inr (1, [.int tzra, .int tzrb, .int tzrc, .int tzrp, .int tzrq, .int tzrr, .int tzrs, .int tzrd]))] sz) := by
  refine Met.ofW (cc := cX0_middleOfProduct) (maxL := 11) (ret := (some .int)) (by decide +kernel) rfl ?_
  intro p e s m args below meth c s₁ B hml hv
  obtain ⟨rfl, hsz, hP, hK, hD0, hnw⟩ := hv
  have hx := B.exec
  have hb := B.bytes
  have hr := B.returns
  have hts := atoms_spec (ws := wsX0_middleOfProduct) B.pre
  have hown : s.vm.findClass RX0 = some m.cls := findClass_of_methodNamed B.named
  have hlocks := B.notSynchronized
  have hinX0 : ∀ w ∈ wsX00, w ∈ wsX0_middleOfProduct := by decide +kernel
  subst hsz
  have hD := hD0.self (sz := s.heap.size)
  generalize hAe : va_A [(th, .inr (0, [.ref tqa, .ref tqb, .ref tqc, .ref tzh, .int tdd, .int tsz])), (tqa, .inl (cyI, 40, .inl tfa)), (tqb, .inl (cyI, 40, .inl tfb)), (tqc, .inl (cyI, 40, .inl tfc)), (tzh, .inr (1, [.int tzra, .int tzrb, .int tzrc, .int tzrp, .int tzrq, .int tzrr, .int tzrs, .int tzrd]))] s.heap.size = A at hD ⊢
  have hA : ∀ q : Nat, s.heap.size ≤ q → A q := fun q h => by rw [← hAe]; exact Or.inr h
  have hS : va_S A s.heap s.heap [] := va_S.rf
  have hP : va_P (dC, dI) vwCl [(th, .inr (0, [.ref tqa, .ref tqb, .ref tqc, .ref tzh, .int tdd, .int tsz])), (tqa, .inl (cyI, 40, .inl tfa)), (tqb, .inl (cyI, 40, .inl tfb)), (tqc, .inl (cyI, 40, .inl tfc)), (tzh, .inr (1, [.int tzra, .int tzrb, .int tzrc, .int tzrp, .int tzrq, .int tzrr, .int tzrs, .int tzrd]))] s.heap := hP
  have hl := lv_entry ([.ref th, .int p0, .int p1, .int p2, .int p3, .int p4]) (n := 11) (Nat.le_of_ble_eq_true rfl)
  rw [lg_entry_eq]
  generalize (lg_sl ([.ref th, .int p0, .int p1, .int p2, .int p3, .int p4]) ++ List.replicate (11 - (lg_sl ([.ref th, .int p0, .int p1, .int p2, .int p3, .int p4])).length) Slot.unset).toArray = ls at hl ⊢
  have hl : lv_has ls 11 [(0, .ref th), (1, .int p0), (2, .int p1), (3, .int p2), (4, .int p3), (5, .int p4)] := hl
  obtain ⟨QQ, hQQ⟩ : ∃ Q, Q = MQ below (va_Qi (fun r (_ : Unit) => r = rv) (fun _ t => mc_Post (dC, dI) A [(th, .inr (0, [.ref tqa, .ref tqb, .ref tqc, .ref tzh, .int tdd, .int tsz])), (tqa, .inl (cyI, 40, .inl tfa)), (tqb, .inl (cyI, 40, .inl tfb)), (tqc, .inl (cyI, 40, .inl tfc)), (tzh, .inr (1, [.int tzra, .int tzrb, .int tzrc, .int tzrp, .int tzrq, .int tzrr, .int tzrs, .int tzrd]))] t) A) ([Value.ref th, Value.int p0, Value.int p1, Value.int p2, Value.int p3, Value.int p4] : List Value).toArray s 0 0 A := ⟨_, rfl⟩
  rw [← hQQ]
  have h := hf
  unfold f_X0_middleOfProduct at h
  refine lv_iload_n hx hb dX0_middleOfProduct_0 rfl (lv_at hl 2 rfl) ?_
  refine lv_iload hx hb dX0_middleOfProduct_1 (lv_at hl 4 rfl) ?_
  refine lv_iadd hx hb dX0_middleOfProduct_3 ?_
  refine lv_topi (fun x1 ex1 => ?_)
  have h := dm_lu ex1 h
  refine lv_istore (lv' := [(6, .int x1), (0, .ref th), (1, .int p0), (2, .int p1), (3, .int p2), (4, .int p3), (5, .int p4)]) hx hb dX0_middleOfProduct_4 hl (by decide) rfl (fun ls hl => ?_)
  refine lv_iload_n hx hb dX0_middleOfProduct_6 rfl (lv_at hl 3 rfl) ?_
  refine lv_iload hx hb dX0_middleOfProduct_7 (lv_at hl 5 rfl) ?_
  refine lv_imul hx hb dX0_middleOfProduct_9 ?_
  refine lv_aload_n hx hb dX0_middleOfProduct_10 rfl (lv_at hl 1 rfl) ?_
  refine va_get (D := (dC, dI)) (ci := 0) (v := .int tdd) (C := RX0) (T := TX0) (N := 6) hx hb hts hinX0 hown hK hP 0 rfl rfl 4 (by decide) (hts (.fieldLink RX0 28 "FormDesk$ClassList" "discriminant" "I") (by decide +kernel)) (fun _ h9 => h9) rfl dX0_middleOfProduct_11 ?_
  refine lv_iadd hx hb dX0_middleOfProduct_14 ?_
  refine lv_topi (fun x2 ex2 => ?_)
  have h := dm_lu ex2 h
  refine lv_istore (lv' := [(7, .int x2), (6, .int x1), (0, .ref th), (1, .int p0), (2, .int p1), (3, .int p2), (4, .int p3), (5, .int p4)]) hx hb dX0_middleOfProduct_15 hl (by decide) rfl (fun ls hl => ?_)
  refine lv_iconst (v := 4) hx hb dX0_middleOfProduct_17 (by decide) ?_
  refine lv_iload_n hx hb dX0_middleOfProduct_18 rfl (lv_at hl 3 rfl) ?_
  refine lv_imul hx hb dX0_middleOfProduct_19 ?_
  refine lv_iload_n hx hb dX0_middleOfProduct_20 rfl (lv_at hl 5 rfl) ?_
  refine lv_imul hx hb dX0_middleOfProduct_21 ?_
  refine lv_iload hx hb dX0_middleOfProduct_22 (lv_at hl 7 rfl) ?_
  refine lv_imul hx hb dX0_middleOfProduct_24 ?_
  refine lv_topi (fun x3 ex3 => ?_)
  have h := dm_lu ex3 h
  refine lv_istore (lv' := [(8, .int x3), (7, .int x2), (6, .int x1), (0, .ref th), (1, .int p0), (2, .int p1), (3, .int p2), (4, .int p3), (5, .int p4)]) hx hb dX0_middleOfProduct_25 hl (by decide) rfl (fun ls hl => ?_)
  refine lv_iload_n hx hb dX0_middleOfProduct_27 rfl (lv_at hl 5 rfl) ?_
  refine lv_istore (lv' := [(9, .int p1), (8, .int x3), (7, .int x2), (6, .int x1), (0, .ref th), (1, .int p0), (2, .int p1), (3, .int p2), (4, .int p3), (5, .int p4)]) hx hb dX0_middleOfProduct_28 hl (by decide) rfl (fun ls hl => ?_)
  refine lv_iconst (v := 0) hx hb dX0_middleOfProduct_30 (by decide) ?_
  refine lv_istore (lv' := [(10, .int (0 : Int32)), (9, .int p1), (8, .int x3), (7, .int x2), (6, .int x1), (0, .ref th), (1, .int p0), (2, .int p1), (3, .int p2), (4, .int p3), (5, .int p4)]) hx hb dX0_middleOfProduct_31 hl (by decide) rfl (fun ls hl => ?_)
  have L33 : ∀ (n33 : Nat) (v4 : Int32) (v5 : Int32) (H : Heap) (locs : List Loc) (ls : Array Slot), f_X0_middleOfProduct_L33 p0 p2 p3 x1 x2 x3 n33 v4 v5 = some rv → va_P (dC, dI) vwCl [(th, .inr (0, [.ref tqa, .ref tqb, .ref tqc, .ref tzh, .int tdd, .int tsz])), (tqa, .inl (cyI, 40, .inl tfa)), (tqb, .inl (cyI, 40, .inl tfb)), (tqc, .inl (cyI, 40, .inl tfc)), (tzh, .inr (1, [.int tzra, .int tzrb, .int tzrc, .int tzrp, .int tzrq, .int tzrr, .int tzrs, .int tzrd]))] H → va_D A [(th, .inr (0, [.ref tqa, .ref tqb, .ref tqc, .ref tzh, .int tdd, .int tsz])), (tqa, .inl (cyI, 40, .inl tfa)), (tqb, .inl (cyI, 40, .inl tfb)), (tqc, .inl (cyI, 40, .inl tfc)), (tzh, .inr (1, [.int tzra, .int tzrb, .int tzrc, .int tzrp, .int tzrq, .int tzrr, .int tzrs, .int tzrd]))] → va_S A s.heap H locs → lv_has ls 11 [(10, .int v4), (9, .int v5), (8, .int x3), (7, .int x2), (6, .int x1), (0, .ref th), (1, .int p0), (2, .int p1), (3, .int p2), (4, .int p3), (5, .int p4)] → W p l e (headSpec wsX0_middleOfProduct { frames := 1, cells := 0, slots := 0, locals := 21 }).room s m ([Value.ref th, Value.int p0, Value.int p1, Value.int p2, Value.int p3, Value.int p4] : List Value).toArray below meth c H locs 0 0 QQ (F0 m 33 ls []) := by
    intro n33
    induction n33 with
    | zero =>
      intro v4 v5 H locs ls h
      exact nomatch (show (none : Option (Int32)) = some _ from h)
    | succ n33 ih33 =>
      intro v4 v5 H locs ls h hP hD hS hl
      rw [f_X0_middleOfProduct_L33] at h
      refine lv_iload hx hb dX0_middleOfProduct_33 (lv_at hl 0 rfl) ?_
      refine lv_iload_n hx hb dX0_middleOfProduct_35 rfl (lv_at hl 8 rfl) ?_
      refine lv_icmp_ge (tgt := 86) hx hb dX0_middleOfProduct_36 (by decide) (fun hc6 => ?_) (fun hc6 => ?_)
      · have h := dm_t hc6 h
        refine lv_iload hx hb dX0_middleOfProduct_86 (lv_at hl 1 rfl) ?_
        obtain hE0 := dm_i1 h
        subst hE0
        rw [hQQ]
        have hP9 := hP.sub (ws' := [(th, .inr (0, [.ref tqa, .ref tqb, .ref tqc, .ref tzh, .int tdd, .int tsz])), (tqa, .inl (cyI, 40, .inl tfa)), (tqb, .inl (cyI, 40, .inl tfb)), (tqc, .inl (cyI, 40, .inl tfc)), (tzh, .inr (1, [.int tzra, .int tzrb, .int tzrc, .int tzrp, .int tzrq, .int tzrr, .int tzrs, .int tzrd]))]) [0, 1, 2, 3, 4] rfl
        have hD9 := hD.sub (ws' := [(th, .inr (0, [.ref tqa, .ref tqb, .ref tqc, .ref tzh, .int tdd, .int tsz])), (tqa, .inl (cyI, 40, .inl tfa)), (tqb, .inl (cyI, 40, .inl tfb)), (tqc, .inl (cyI, 40, .inl tfc)), (tzh, .inr (1, [.int tzra, .int tzrb, .int tzrc, .int tzrp, .int tzrq, .int tzrr, .int tzrs, .int tzrd]))]) [0, 1, 2, 3, 4] (by decide) rfl
        exact W.iret (v := v5) hx hb hr (fun t ht hW => ⟨⟨v5, (), rfl, rfl, by rw [ht]; exact hP9, hD9⟩, hS.F ht⟩) hS.2.2 dX0_middleOfProduct_88
      · have h := dm_f hc6 h
        refine lv_iconst (v := 2) hx hb dX0_middleOfProduct_39 (by decide) ?_
        refine lv_iload_n hx hb dX0_middleOfProduct_40 rfl (lv_at hl 8 rfl) ?_
        refine lv_imul hx hb dX0_middleOfProduct_41 ?_
        refine lv_iload hx hb dX0_middleOfProduct_42 (lv_at hl 1 rfl) ?_
        refine lv_iload hx hb dX0_middleOfProduct_44 (lv_at hl 9 rfl) ?_
        refine lv_isub hx hb dX0_middleOfProduct_46 ?_
        obtain ⟨r7, hk8, h⟩ := dm_b1s h
        refine mc_i (wr := [(th, .inr (0, [.ref tqa, .ref tqb, .ref tqc, .ref tzh, .int tdd, .int tsz])), (tqa, .inl (cyI, 40, .inl tfa)), (tqb, .inl (cyI, 40, .inl tfb)), (tqc, .inl (cyI, 40, .inl tfc)), (tzh, .inr (1, [.int tzra, .int tzrb, .int tzrc, .int tzrp, .int tzrq, .int tzrr, .int tzrs, .int tzrd]))]) (va_runSN (As := [.int ((2 : Int32) * p2), .int (v5 - p3)]) (rest := []) ⟨hx, hb, hml, hown, hts⟩ (c_X3_divides l dC dI cyI cyJ cyC H.size ((2 : Int32) * p2) (v5 - p3) r7 hk8) ⟨va_cnB 2 hts gX0_middleOfProduct_X3_divides_n51 rfl rfl rfl (hnw _ (by decide +kernel : Cond.methodLinkNest RX0 51 yX3_divides "FormDesk" ∈ mc_nws)) (hts (.initialized RX3) (by decide +kernel)) (by decide +kernel) ⟨(Nat.le_of_ble_eq_true rfl), (Nat.le_of_ble_eq_true rfl)⟩, hts (.static yX3_divides) (by decide +kernel), trivial⟩ (mc_preS hK (hP.sub (ws' := []) [] rfl) (hD.sub (ws' := []) [] (by decide) rfl) hnw) rfl rfl hl.1 rfl (lv_room (Nat.le_of_ble_eq_true rfl)) dX0_middleOfProduct_47 ⟨Nat.zero_le _, Nat.zero_le _⟩) hP hD hS hA [] [0, 1, 2, 3, 4] rfl rfl rfl (by decide) (fun H locs hP hD hS => ?_)
        have hP : va_P (dC, dI) vwCl [(th, .inr (0, [.ref tqa, .ref tqb, .ref tqc, .ref tzh, .int tdd, .int tsz])), (tqa, .inl (cyI, 40, .inl tfa)), (tqb, .inl (cyI, 40, .inl tfb)), (tqc, .inl (cyI, 40, .inl tfc)), (tzh, .inr (1, [.int tzra, .int tzrb, .int tzrc, .int tzrp, .int tzrq, .int tzrr, .int tzrs, .int tzrd]))] H := hP
        have hD : va_D A [(th, .inr (0, [.ref tqa, .ref tqb, .ref tqc, .ref tzh, .int tdd, .int tsz])), (tqa, .inl (cyI, 40, .inl tfa)), (tqb, .inl (cyI, 40, .inl tfb)), (tqc, .inl (cyI, 40, .inl tfc)), (tzh, .inr (1, [.int tzra, .int tzrb, .int tzrc, .int tzrp, .int tzrq, .int tzrr, .int tzrs, .int tzrd]))] := hD
        refine lv_if_eq (tgt := 72) hx hb dX0_middleOfProduct_50 (by decide) (fun hc9 => ?_) (fun hc9 => ?_)
        · have h := dm_t hc9 h
          refine lv_iload hx hb dX0_middleOfProduct_72 (lv_at hl 1 rfl) ?_
          refine lv_iconst (v := 2) hx hb dX0_middleOfProduct_74 (by decide) ?_
          refine lv_iload_n hx hb dX0_middleOfProduct_75 rfl (lv_at hl 6 rfl) ?_
          refine lv_imul hx hb dX0_middleOfProduct_76 ?_
          refine lv_iadd hx hb dX0_middleOfProduct_77 ?_
          refine lv_topi (fun x10 ex10 => ?_)
          have h := dm_lu ex10 h
          refine lv_istore (lv' := [(9, .int x10), (10, .int v4), (8, .int x3), (7, .int x2), (6, .int x1), (0, .ref th), (1, .int p0), (2, .int p1), (3, .int p2), (4, .int p3), (5, .int p4)]) hx hb dX0_middleOfProduct_78 hl (by decide) rfl (fun ls hl => ?_)
          obtain ⟨x11, ex11⟩ : ∃ y : Int32, y = (v4 + (1 : Int32)) := ⟨_, rfl⟩
          have h := dm_lu ex11 h
          refine lv_iinc (v := x11) (lv' := [(10, .int x11), (9, .int x10), (8, .int x3), (7, .int x2), (6, .int x1), (0, .ref th), (1, .int p0), (2, .int p1), (3, .int p2), (4, .int p3), (5, .int p4)]) hx hb dX0_middleOfProduct_80 hl (k := 1) rfl (by rw [ex11]; rfl) (by decide) rfl (fun ls hl => ?_)
          refine lv_goto (tgt := 33) hx hb dX0_middleOfProduct_83 (by decide) ?_
          exact ih33 x11 x10 H _ ls h (hP.sub [0, 1, 2, 3, 4] rfl) (hD.sub [0, 1, 2, 3, 4] (by decide) rfl) hS (lv_sub hl [0, 1, 2, 3, 4, 5, 6, 7, 8, 9, 10] rfl)
        · have h := dm_f hc9 h
          refine lv_iload hx hb dX0_middleOfProduct_53 (lv_at hl 2 rfl) ?_
          refine lv_iload hx hb dX0_middleOfProduct_55 (lv_at hl 4 rfl) ?_
          refine lv_iload hx hb dX0_middleOfProduct_57 (lv_at hl 1 rfl) ?_
          refine lv_imul hx hb dX0_middleOfProduct_59 ?_
          refine lv_iload hx hb dX0_middleOfProduct_60 (lv_at hl 3 rfl) ?_
          refine lv_isub hx hb dX0_middleOfProduct_62 ?_
          obtain ⟨r12, hk13, h⟩ := dm_b1s h
          refine mc_i (wr := [(th, .inr (0, [.ref tqa, .ref tqb, .ref tqc, .ref tzh, .int tdd, .int tsz])), (tqa, .inl (cyI, 40, .inl tfa)), (tqb, .inl (cyI, 40, .inl tfb)), (tqc, .inl (cyI, 40, .inl tfc)), (tzh, .inr (1, [.int tzra, .int tzrb, .int tzrc, .int tzrp, .int tzrq, .int tzrr, .int tzrs, .int tzrd]))]) (va_runSN (As := [.int x3, .int ((x1 * v5) - x2)]) (rest := []) ⟨hx, hb, hml, hown, hts⟩ (c_X3_divides l dC dI cyI cyJ cyC H.size x3 ((x1 * v5) - x2) r12 hk13) ⟨va_cnB 2 hts gX0_middleOfProduct_X3_divides_n51 rfl rfl rfl (hnw _ (by decide +kernel : Cond.methodLinkNest RX0 51 yX3_divides "FormDesk" ∈ mc_nws)) (hts (.initialized RX3) (by decide +kernel)) (by decide +kernel) ⟨(Nat.le_of_ble_eq_true rfl), (Nat.le_of_ble_eq_true rfl)⟩, hts (.static yX3_divides) (by decide +kernel), trivial⟩ (mc_preS hK (hP.sub (ws' := []) [] rfl) (hD.sub (ws' := []) [] (by decide) rfl) hnw) rfl rfl hl.1 rfl (lv_room (Nat.le_of_ble_eq_true rfl)) dX0_middleOfProduct_63 ⟨Nat.zero_le _, Nat.zero_le _⟩) hP hD hS hA [] [0, 1, 2, 3, 4] rfl rfl rfl (by decide) (fun H locs hP hD hS => ?_)
          have hP : va_P (dC, dI) vwCl [(th, .inr (0, [.ref tqa, .ref tqb, .ref tqc, .ref tzh, .int tdd, .int tsz])), (tqa, .inl (cyI, 40, .inl tfa)), (tqb, .inl (cyI, 40, .inl tfb)), (tqc, .inl (cyI, 40, .inl tfc)), (tzh, .inr (1, [.int tzra, .int tzrb, .int tzrc, .int tzrp, .int tzrq, .int tzrr, .int tzrs, .int tzrd]))] H := hP
          have hD : va_D A [(th, .inr (0, [.ref tqa, .ref tqb, .ref tqc, .ref tzh, .int tdd, .int tsz])), (tqa, .inl (cyI, 40, .inl tfa)), (tqb, .inl (cyI, 40, .inl tfb)), (tqc, .inl (cyI, 40, .inl tfc)), (tzh, .inr (1, [.int tzra, .int tzrb, .int tzrc, .int tzrp, .int tzrq, .int tzrr, .int tzrs, .int tzrd]))] := hD
          refine lv_if_eq (tgt := 72) hx hb dX0_middleOfProduct_66 (by decide) (fun hc14 => ?_) (fun hc14 => ?_)
          · have h := dm_t hc14 h
            refine lv_iload hx hb dX0_middleOfProduct_72 (lv_at hl 1 rfl) ?_
            refine lv_iconst (v := 2) hx hb dX0_middleOfProduct_74 (by decide) ?_
            refine lv_iload_n hx hb dX0_middleOfProduct_75 rfl (lv_at hl 6 rfl) ?_
            refine lv_imul hx hb dX0_middleOfProduct_76 ?_
            refine lv_iadd hx hb dX0_middleOfProduct_77 ?_
            refine lv_topi (fun x15 ex15 => ?_)
            have h := dm_lu ex15 h
            refine lv_istore (lv' := [(9, .int x15), (10, .int v4), (8, .int x3), (7, .int x2), (6, .int x1), (0, .ref th), (1, .int p0), (2, .int p1), (3, .int p2), (4, .int p3), (5, .int p4)]) hx hb dX0_middleOfProduct_78 hl (by decide) rfl (fun ls hl => ?_)
            obtain ⟨x16, ex16⟩ : ∃ y : Int32, y = (v4 + (1 : Int32)) := ⟨_, rfl⟩
            have h := dm_lu ex16 h
            refine lv_iinc (v := x16) (lv' := [(10, .int x16), (9, .int x15), (8, .int x3), (7, .int x2), (6, .int x1), (0, .ref th), (1, .int p0), (2, .int p1), (3, .int p2), (4, .int p3), (5, .int p4)]) hx hb dX0_middleOfProduct_80 hl (k := 1) rfl (by rw [ex16]; rfl) (by decide) rfl (fun ls hl => ?_)
            refine lv_goto (tgt := 33) hx hb dX0_middleOfProduct_83 (by decide) ?_
            exact ih33 x16 x15 H _ ls h (hP.sub [0, 1, 2, 3, 4] rfl) (hD.sub [0, 1, 2, 3, 4] (by decide) rfl) hS (lv_sub hl [0, 1, 2, 3, 4, 5, 6, 7, 8, 9, 10] rfl)
          · have h := dm_f hc14 h
            refine lv_iload hx hb dX0_middleOfProduct_69 (lv_at hl 1 rfl) ?_
            obtain hE0 := dm_i1 h
            subst hE0
            rw [hQQ]
            have hP9 := hP.sub (ws' := [(th, .inr (0, [.ref tqa, .ref tqb, .ref tqc, .ref tzh, .int tdd, .int tsz])), (tqa, .inl (cyI, 40, .inl tfa)), (tqb, .inl (cyI, 40, .inl tfb)), (tqc, .inl (cyI, 40, .inl tfc)), (tzh, .inr (1, [.int tzra, .int tzrb, .int tzrc, .int tzrp, .int tzrq, .int tzrr, .int tzrs, .int tzrd]))]) [0, 1, 2, 3, 4] rfl
            have hD9 := hD.sub (ws' := [(th, .inr (0, [.ref tqa, .ref tqb, .ref tqc, .ref tzh, .int tdd, .int tsz])), (tqa, .inl (cyI, 40, .inl tfa)), (tqb, .inl (cyI, 40, .inl tfb)), (tqc, .inl (cyI, 40, .inl tfc)), (tzh, .inr (1, [.int tzra, .int tzrb, .int tzrc, .int tzrp, .int tzrq, .int tzrr, .int tzrs, .int tzrd]))]) [0, 1, 2, 3, 4] (by decide) rfl
            exact W.iret (v := v5) hx hb hr (fun t ht hW => ⟨⟨v5, (), rfl, rfl, by rw [ht]; exact hP9, hD9⟩, hS.F ht⟩) hS.2.2 dX0_middleOfProduct_71
  exact L33 100000 (0 : Int32) p1 s.heap _ ls h hP hD hS hl

def f_X0_product (tfa : Nat → Int32) (tfb : Nat → Int32) (tdd : Int32) (tsz : Int32) (tzra : Int32) (tzrb : Int32) (tzrc : Int32) (tzrp : Int32) (tzrq : Int32) (tzrr : Int32) (tzrs : Int32) (tzrd : Int32) (p0 : Int32) (p1 : Int32) : Option (Int32 × Int32 × Int32 × Int32 × Int32 × Int32 × Int32 × Int32 × Int32) :=
  dm_b1 (f_X0_has tsz p0) fun r1 =>
  if r1 = 0 then
    some ((-1 : Int32), tzra, tzrb, tzrc, tzrp, tzrq, tzrr, tzrs, tzrd)
  else
    dm_b1 (f_X0_has tsz p1) fun r4 =>
    if r4 = 0 then
      some ((-1 : Int32), tzra, tzrb, tzrc, tzrp, tzrq, tzrr, tzrs, tzrd)
    else
      dm_g (¬ (p0 < 0 ∨ 40 ≤ (p0).toNatClampNeg)) <|
      dm_g (¬ (p1 < 0 ∨ 40 ≤ (p1).toNatClampNeg)) <|
      dm_b1 (f_X3_gcd (tfa (p0).toNatClampNeg) (tfa (p1).toNatClampNeg)) fun r9 =>
      dm_g (¬ (p0 < 0 ∨ 40 ≤ (p0).toNatClampNeg)) <|
      dm_g (¬ (p1 < 0 ∨ 40 ≤ (p1).toNatClampNeg)) <|
      dm_b1 (f_X3_gcd r9 (((tfb (p0).toNatClampNeg) + (tfb (p1).toNatClampNeg)) / (2 : Int32))) fun r13 =>
      if r13 = 0 then
        some ((-1 : Int32), tzra, tzrb, tzrc, tzrp, tzrq, tzrr, tzrs, tzrd)
      else
        dm_g (¬ (p0 < 0 ∨ 40 ≤ (p0).toNatClampNeg)) <|
        dm_g (¬ r13 = 0) <|
        dm_let ((tfa (p0).toNatClampNeg) / r13) fun x18 =>
        dm_g (¬ (p1 < 0 ∨ 40 ≤ (p1).toNatClampNeg)) <|
        dm_g (¬ r13 = 0) <|
        dm_let ((tfa (p1).toNatClampNeg) / r13) fun x21 =>
        dm_g (¬ (p0 < 0 ∨ 40 ≤ (p0).toNatClampNeg)) <|
        dm_g (¬ (p1 < 0 ∨ 40 ≤ (p1).toNatClampNeg)) <|
        dm_b1 (f_X0_middleOfProduct tdd x18 (tfb (p0).toNatClampNeg) x21 (tfb (p1).toNatClampNeg) r13) fun r24 =>
        dm_let ((r24 * r24) - tdd) fun x26 =>
        dm_let (((4 : Int32) * x18) * x21) fun x27 =>
        dm_b1 (f_X3_divides x27 x26) fun r28 =>
        if r28 = 0 then
          some ((-1 : Int32), tzra, tzrb, tzrc, tzrp, tzrq, tzrr, tzrs, tzrd)
        else
          dm_g (¬ x27 = 0) <|
          dm_b9 (f_X1_run (x18 * x21) r24 (x26 / x27)) fun r32 w33 w34 w35 w36 w37 w38 w39 w40 =>
          dm_b1 (f_X0_find tfa tfb tsz w33 w34) fun r42 =>
          some (r42, w33, w34, w35, w36, w37, w38, w39, w40)
set_option maxHeartbeats 4000000 in
set_option maxRecDepth 100000 in
theorem c_X0_product (l : Launch) (dC : Nat → ClassId) (dI : Nat → Nat → Nat) (cyI cyJ cyC : ClassId) (th tqa tqb tqc tzh : Nat) (sz : Nat) (tfa : Nat → Int32) (tfb : Nat → Int32) (tfc : Nat → Int32) (tdd : Int32) (tsz : Int32) (tzra : Int32) (tzrb : Int32) (tzrc : Int32) (tzrp : Int32) (tzrq : Int32) (tzrr : Int32) (tzrs : Int32) (tzrd : Int32) (p0 : Int32) (p1 : Int32) (rv : Int32) (tzra' : Int32) (tzrb' : Int32) (tzrc' : Int32) (tzrp' : Int32) (tzrq' : Int32) (tzrr' : Int32) (tzrs' : Int32) (tzrd' : Int32) (hf : f_X0_product tfa tfb tdd tsz tzra tzrb tzrc tzrp tzrq tzrr tzrs tzrd p0 p1 = some (rv, tzra', tzrb', tzrc', tzrp', tzrq', tzrr', tzrs', tzrd')) : Met l yX0_product wsX0_product { frames := 3, cells := 0, slots := 0, locals := 67 } (va_Pc [.ref th, .int p0, .int p1] (mc_Pre (dC, dI) (mc_tys cyI cyJ cyC) [(th, .inr (0, [.ref tqa, .ref tqb, .ref tqc, .ref tzh, .int tdd, .int tsz])), (tqa, .inl (cyI, 40, .inl tfa)), (tqb, .inl (cyI, 40, .inl tfb)), (tqc, .inl (cyI, 40, .inl tfc)), (tzh, .inr (1, [.int tzra, .int tzrb, .int tzrc, .int tzrp, .int tzrq, .int tzrr, .int tzrs, .int tzrd]))] sz)) (va_Qi (fun r (_ : Unit) => r = rv) (fun _ t => mc_Post (dC, dI) (va_A [(th, .inr (0, [.ref tqa, .ref tqb, .ref tqc, .ref tzh, .int tdd, .int tsz])), (tqa, .inl (cyI, 40, .inl tfa)), (tqb, .inl (cyI, 40, .inl tfb)), (tqc, .inl (cyI, 40, .inl tfc)), (tzh, .inr (1, [.int tzra, .int tzrb, .int tzrc, .int tzrp, .int tzrq, .int tzrr, .int tzrs, .int tzrd]))] sz) [(th, .inr (0, [.ref tqa, .ref tqb, .ref tqc, .ref tzh, .int tdd, .int tsz])), (tqa, .inl (cyI, 40, .inl tfa)), (tqb, .inl (cyI, 40, .inl tfb)), (tqc, .inl (cyI, 40, .inl tfc)), (tzh, .inr (1, [.int tzra', .int tzrb', .int tzrc', .int tzrp', .int tzrq', .int tzrr', .int tzrs', .int tzrd']))] t) (va_A [(th, .inr (0, [.ref tqa, .ref tqb, .ref tqc, .ref tzh, .int tdd, .int tsz])), (tqa, .inl (cyI, 40, .inl tfa)), (tqb, .inl (cyI, 40, .inl tfb)), (tqc, .inl (cyI, 40, .inl tfc)), (tzh, .inr (1, [.int tzra, .int tzrb, .int tzrc, .int tzrp, .int tzrq, .int tzrr, .int tzrs, .int tzrd]))] sz)) 0 0 (va_A [(th, .inr (0, [.ref tqa, .ref tqb, .ref tqc, .ref tzh, .int tdd, .int tsz])), (tqa, .inl (cyI, 40, .inl tfa)), (tqb, .inl (cyI, 40, .inl tfb)), (tqc, .inl (cyI, 40, .inl tfc)), (tzh, .inr (1, [.int tzra, .int tzrb, .int tzrc, .int tzrp, .int tzrq, .int tzrr, .int tzrs, .int tzrd]))] sz) := by
  refine Met.ofW (cc := cX0_product) (maxL := 9) (ret := (some .int)) (by decide +kernel) rfl ?_
  intro p e s m args below meth c s₁ B hml hv
  obtain ⟨rfl, hsz, hP, hK, hD0, hnw⟩ := hv
  have hx := B.exec
  have hb := B.bytes
  have hr := B.returns
  have hts := atoms_spec (ws := wsX0_product) B.pre
  have hown : s.vm.findClass RX0 = some m.cls := findClass_of_methodNamed B.named
  have hlocks := B.notSynchronized
  have hinX0 : ∀ w ∈ wsX00, w ∈ wsX0_product := by decide +kernel
  have hinX1 : ∀ w ∈ wsX10, w ∈ wsX0_product := by decide +kernel
  subst hsz
  have hD := hD0.self (sz := s.heap.size)
  generalize hAe : va_A [(th, .inr (0, [.ref tqa, .ref tqb, .ref tqc, .ref tzh, .int tdd, .int tsz])), (tqa, .inl (cyI, 40, .inl tfa)), (tqb, .inl (cyI, 40, .inl tfb)), (tqc, .inl (cyI, 40, .inl tfc)), (tzh, .inr (1, [.int tzra, .int tzrb, .int tzrc, .int tzrp, .int tzrq, .int tzrr, .int tzrs, .int tzrd]))] s.heap.size = A at hD ⊢
  have hA : ∀ q : Nat, s.heap.size ≤ q → A q := fun q h => by rw [← hAe]; exact Or.inr h
  have hS : va_S A s.heap s.heap [] := va_S.rf
  have hP : va_P (dC, dI) vwCl [(th, .inr (0, [.ref tqa, .ref tqb, .ref tqc, .ref tzh, .int tdd, .int tsz])), (tqa, .inl (cyI, 40, .inl tfa)), (tqb, .inl (cyI, 40, .inl tfb)), (tqc, .inl (cyI, 40, .inl tfc)), (tzh, .inr (1, [.int tzra, .int tzrb, .int tzrc, .int tzrp, .int tzrq, .int tzrr, .int tzrs, .int tzrd]))] s.heap := hP
  have hl := lv_entry ([.ref th, .int p0, .int p1]) (n := 9) (Nat.le_of_ble_eq_true rfl)
  rw [lg_entry_eq]
  generalize (lg_sl ([.ref th, .int p0, .int p1]) ++ List.replicate (9 - (lg_sl ([.ref th, .int p0, .int p1])).length) Slot.unset).toArray = ls at hl ⊢
  have hl : lv_has ls 9 [(0, .ref th), (1, .int p0), (2, .int p1)] := hl
  obtain ⟨QQ, hQQ⟩ : ∃ Q, Q = MQ below (va_Qi (fun r (_ : Unit) => r = rv) (fun _ t => mc_Post (dC, dI) A [(th, .inr (0, [.ref tqa, .ref tqb, .ref tqc, .ref tzh, .int tdd, .int tsz])), (tqa, .inl (cyI, 40, .inl tfa)), (tqb, .inl (cyI, 40, .inl tfb)), (tqc, .inl (cyI, 40, .inl tfc)), (tzh, .inr (1, [.int tzra', .int tzrb', .int tzrc', .int tzrp', .int tzrq', .int tzrr', .int tzrs', .int tzrd']))] t) A) ([Value.ref th, Value.int p0, Value.int p1] : List Value).toArray s 0 0 A := ⟨_, rfl⟩
  rw [← hQQ]
  have h := hf
  unfold f_X0_product at h
  refine lv_aload_n hx hb dX0_product_0 rfl (lv_at hl 0 rfl) ?_
  refine lv_iload_n hx hb dX0_product_1 rfl (lv_at hl 1 rfl) ?_
  obtain ⟨r1, hk2, h⟩ := dm_b1s h
  refine mc_i (wr := []) (va_runV (As := [.int p0]) (rest := []) ⟨hx, hb, hml, hown, hts⟩ (c_X0_has l dC dI cyI cyJ cyC th tqa tqb tqc tzh s.heap.size tfa tfb tfc tdd tsz tzra tzrb tzrc tzrp tzrq tzrr tzrs tzrd p0 r1 hk2) (cwV 1 hts gX0_product_X0_has rfl rfl rfl (by decide +kernel) ⟨(Nat.le_of_ble_eq_true rfl), (Nat.le_of_ble_eq_true rfl)⟩) (mc_preV hK (hP.sub (ws' := [(th, .inr (0, [.ref tqa, .ref tqb, .ref tqc, .ref tzh, .int tdd, .int tsz])), (tqa, .inl (cyI, 40, .inl tfa)), (tqb, .inl (cyI, 40, .inl tfb)), (tqc, .inl (cyI, 40, .inl tfc)), (tzh, .inr (1, [.int tzra, .int tzrb, .int tzrc, .int tzrp, .int tzrq, .int tzrr, .int tzrs, .int tzrd]))]) [0, 1, 2, 3, 4] rfl) (hD.sub (ws' := [(th, .inr (0, [.ref tqa, .ref tqb, .ref tqc, .ref tzh, .int tdd, .int tsz])), (tqa, .inl (cyI, 40, .inl tfa)), (tqb, .inl (cyI, 40, .inl tfb)), (tqc, .inl (cyI, 40, .inl tfc)), (tzh, .inr (1, [.int tzra, .int tzrb, .int tzrc, .int tzrp, .int tzrq, .int tzrr, .int tzrs, .int tzrd]))]) [0, 1, 2, 3, 4] (by decide) rfl) hnw rfl rfl) rfl rfl hl.1 rfl (lv_room (Nat.le_of_ble_eq_true rfl)) dX0_product_2 ⟨Nat.zero_le _, Nat.zero_le _⟩) hP hD hS hA [0, 1, 2, 3, 4] [] rfl rfl rfl (by decide) (fun H locs hP hD hS => ?_)
  have hP : va_P (dC, dI) vwCl [(th, .inr (0, [.ref tqa, .ref tqb, .ref tqc, .ref tzh, .int tdd, .int tsz])), (tqa, .inl (cyI, 40, .inl tfa)), (tqb, .inl (cyI, 40, .inl tfb)), (tqc, .inl (cyI, 40, .inl tfc)), (tzh, .inr (1, [.int tzra, .int tzrb, .int tzrc, .int tzrp, .int tzrq, .int tzrr, .int tzrs, .int tzrd]))] H := hP
  have hD : va_D A [(th, .inr (0, [.ref tqa, .ref tqb, .ref tqc, .ref tzh, .int tdd, .int tsz])), (tqa, .inl (cyI, 40, .inl tfa)), (tqb, .inl (cyI, 40, .inl tfb)), (tqc, .inl (cyI, 40, .inl tfc)), (tzh, .inr (1, [.int tzra, .int tzrb, .int tzrc, .int tzrp, .int tzrq, .int tzrr, .int tzrs, .int tzrd]))] := hD
  refine lv_if_eq (tgt := 16) hx hb dX0_product_5 (by decide) (fun hc3 => ?_) (fun hc3 => ?_)
  · have h := dm_t hc3 h
    refine lv_iconst (v := -1) hx hb dX0_product_16 (by decide) ?_
    obtain ⟨hE0, hE1, hE2, hE3, hE4, hE5, hE6, hE7, hE8⟩ := dm_i9 h
    subst hE0; subst hE1; subst hE2; subst hE3; subst hE4; subst hE5; subst hE6; subst hE7; subst hE8
    rw [hQQ]
    have hP9 := hP.sub (ws' := [(th, .inr (0, [.ref tqa, .ref tqb, .ref tqc, .ref tzh, .int tdd, .int tsz])), (tqa, .inl (cyI, 40, .inl tfa)), (tqb, .inl (cyI, 40, .inl tfb)), (tqc, .inl (cyI, 40, .inl tfc)), (tzh, .inr (1, [.int tzra, .int tzrb, .int tzrc, .int tzrp, .int tzrq, .int tzrr, .int tzrs, .int tzrd]))]) [0, 1, 2, 3, 4] rfl
    have hD9 := hD.sub (ws' := [(th, .inr (0, [.ref tqa, .ref tqb, .ref tqc, .ref tzh, .int tdd, .int tsz])), (tqa, .inl (cyI, 40, .inl tfa)), (tqb, .inl (cyI, 40, .inl tfb)), (tqc, .inl (cyI, 40, .inl tfc)), (tzh, .inr (1, [.int tzra, .int tzrb, .int tzrc, .int tzrp, .int tzrq, .int tzrr, .int tzrs, .int tzrd]))]) [0, 1, 2, 3, 4] (by decide) rfl
    exact W.iret (v := (-1 : Int32)) hx hb hr (fun t ht hW => ⟨⟨(-1 : Int32), (), rfl, rfl, by rw [ht]; exact hP9, hD9⟩, hS.F ht⟩) hS.2.2 dX0_product_17
  · have h := dm_f hc3 h
    refine lv_aload_n hx hb dX0_product_8 rfl (lv_at hl 0 rfl) ?_
    refine lv_iload_n hx hb dX0_product_9 rfl (lv_at hl 2 rfl) ?_
    obtain ⟨r4, hk5, h⟩ := dm_b1s h
    refine mc_i (wr := []) (va_runV (As := [.int p1]) (rest := []) ⟨hx, hb, hml, hown, hts⟩ (c_X0_has l dC dI cyI cyJ cyC th tqa tqb tqc tzh H.size tfa tfb tfc tdd tsz tzra tzrb tzrc tzrp tzrq tzrr tzrs tzrd p1 r4 hk5) (cwV 1 hts gX0_product_X0_has rfl rfl rfl (by decide +kernel) ⟨(Nat.le_of_ble_eq_true rfl), (Nat.le_of_ble_eq_true rfl)⟩) (mc_preV hK (hP.sub (ws' := [(th, .inr (0, [.ref tqa, .ref tqb, .ref tqc, .ref tzh, .int tdd, .int tsz])), (tqa, .inl (cyI, 40, .inl tfa)), (tqb, .inl (cyI, 40, .inl tfb)), (tqc, .inl (cyI, 40, .inl tfc)), (tzh, .inr (1, [.int tzra, .int tzrb, .int tzrc, .int tzrp, .int tzrq, .int tzrr, .int tzrs, .int tzrd]))]) [0, 1, 2, 3, 4] rfl) (hD.sub (ws' := [(th, .inr (0, [.ref tqa, .ref tqb, .ref tqc, .ref tzh, .int tdd, .int tsz])), (tqa, .inl (cyI, 40, .inl tfa)), (tqb, .inl (cyI, 40, .inl tfb)), (tqc, .inl (cyI, 40, .inl tfc)), (tzh, .inr (1, [.int tzra, .int tzrb, .int tzrc, .int tzrp, .int tzrq, .int tzrr, .int tzrs, .int tzrd]))]) [0, 1, 2, 3, 4] (by decide) rfl) hnw rfl rfl) rfl rfl hl.1 rfl (lv_room (Nat.le_of_ble_eq_true rfl)) dX0_product_10 ⟨Nat.zero_le _, Nat.zero_le _⟩) hP hD hS hA [0, 1, 2, 3, 4] [] rfl rfl rfl (by decide) (fun H locs hP hD hS => ?_)
    have hP : va_P (dC, dI) vwCl [(th, .inr (0, [.ref tqa, .ref tqb, .ref tqc, .ref tzh, .int tdd, .int tsz])), (tqa, .inl (cyI, 40, .inl tfa)), (tqb, .inl (cyI, 40, .inl tfb)), (tqc, .inl (cyI, 40, .inl tfc)), (tzh, .inr (1, [.int tzra, .int tzrb, .int tzrc, .int tzrp, .int tzrq, .int tzrr, .int tzrs, .int tzrd]))] H := hP
    have hD : va_D A [(th, .inr (0, [.ref tqa, .ref tqb, .ref tqc, .ref tzh, .int tdd, .int tsz])), (tqa, .inl (cyI, 40, .inl tfa)), (tqb, .inl (cyI, 40, .inl tfb)), (tqc, .inl (cyI, 40, .inl tfc)), (tzh, .inr (1, [.int tzra, .int tzrb, .int tzrc, .int tzrp, .int tzrq, .int tzrr, .int tzrs, .int tzrd]))] := hD
    refine lv_if_ne (tgt := 18) hx hb dX0_product_13 (by decide) (fun hc6 => ?_) (fun hc6 => ?_)
    · have h := dm_f hc6 h
      refine lv_aload_n hx hb dX0_product_18 rfl (lv_at hl 0 rfl) ?_
      refine va_get (D := (dC, dI)) (ci := 0) (v := .ref tqa) (C := RX0) (T := TX0) (N := 6) hx hb hts hinX0 hown hK hP 0 rfl rfl 0 (by decide) (hts (.fieldLink RX0 9 "FormDesk$ClassList" "a" "[I") (by decide +kernel)) (fun _ h9 => h9) rfl dX0_product_19 ?_
      refine lv_iload_n hx hb dX0_product_22 rfl (lv_at hl 1 rfl) ?_
      obtain ⟨hn7, h⟩ := dm_gs h
      refine va_iald hx hb hK hP 1 0 rfl rfl hn7 dX0_product_23 ?_
      refine lv_aload_n hx hb dX0_product_24 rfl (lv_at hl 0 rfl) ?_
      refine va_get (D := (dC, dI)) (ci := 0) (v := .ref tqa) (C := RX0) (T := TX0) (N := 6) hx hb hts hinX0 hown hK hP 0 rfl rfl 0 (by decide) (hts (.fieldLink RX0 9 "FormDesk$ClassList" "a" "[I") (by decide +kernel)) (fun _ h9 => h9) rfl dX0_product_25 ?_
      refine lv_iload_n hx hb dX0_product_28 rfl (lv_at hl 2 rfl) ?_
      obtain ⟨hn8, h⟩ := dm_gs h
      refine va_iald hx hb hK hP 1 0 rfl rfl hn8 dX0_product_29 ?_
      obtain ⟨r9, hk10, h⟩ := dm_b1s h
      refine mc_i (wr := [(th, .inr (0, [.ref tqa, .ref tqb, .ref tqc, .ref tzh, .int tdd, .int tsz])), (tqa, .inl (cyI, 40, .inl tfa)), (tqb, .inl (cyI, 40, .inl tfb)), (tqc, .inl (cyI, 40, .inl tfc)), (tzh, .inr (1, [.int tzra, .int tzrb, .int tzrc, .int tzrp, .int tzrq, .int tzrr, .int tzrs, .int tzrd]))]) (va_runSN (As := [.int (tfa (p0).toNatClampNeg), .int (tfa (p1).toNatClampNeg)]) (rest := []) ⟨hx, hb, hml, hown, hts⟩ (c_X3_gcd l dC dI cyI cyJ cyC H.size (tfa (p0).toNatClampNeg) (tfa (p1).toNatClampNeg) r9 hk10) ⟨va_cnB 2 hts gX0_product_X3_gcd_n43 rfl rfl rfl (hnw _ (by decide +kernel : Cond.methodLinkNest RX0 43 yX3_gcd "FormDesk" ∈ mc_nws)) (hts (.initialized RX3) (by decide +kernel)) (by decide +kernel) ⟨(Nat.le_of_ble_eq_true rfl), (Nat.le_of_ble_eq_true rfl)⟩, hts (.static yX3_gcd) (by decide +kernel), trivial⟩ (mc_preS hK (hP.sub (ws' := []) [] rfl) (hD.sub (ws' := []) [] (by decide) rfl) hnw) rfl rfl hl.1 rfl (lv_room (Nat.le_of_ble_eq_true rfl)) dX0_product_30 ⟨Nat.zero_le _, Nat.zero_le _⟩) hP hD hS hA [] [0, 1, 2, 3, 4] rfl rfl rfl (by decide) (fun H locs hP hD hS => ?_)
      have hP : va_P (dC, dI) vwCl [(th, .inr (0, [.ref tqa, .ref tqb, .ref tqc, .ref tzh, .int tdd, .int tsz])), (tqa, .inl (cyI, 40, .inl tfa)), (tqb, .inl (cyI, 40, .inl tfb)), (tqc, .inl (cyI, 40, .inl tfc)), (tzh, .inr (1, [.int tzra, .int tzrb, .int tzrc, .int tzrp, .int tzrq, .int tzrr, .int tzrs, .int tzrd]))] H := hP
      have hD : va_D A [(th, .inr (0, [.ref tqa, .ref tqb, .ref tqc, .ref tzh, .int tdd, .int tsz])), (tqa, .inl (cyI, 40, .inl tfa)), (tqb, .inl (cyI, 40, .inl tfb)), (tqc, .inl (cyI, 40, .inl tfc)), (tzh, .inr (1, [.int tzra, .int tzrb, .int tzrc, .int tzrp, .int tzrq, .int tzrr, .int tzrs, .int tzrd]))] := hD
      refine lv_aload_n hx hb dX0_product_33 rfl (lv_at hl 0 rfl) ?_
      refine va_get (D := (dC, dI)) (ci := 0) (v := .ref tqb) (C := RX0) (T := TX0) (N := 6) hx hb hts hinX0 hown hK hP 0 rfl rfl 1 (by decide) (hts (.fieldLink RX0 15 "FormDesk$ClassList" "b" "[I") (by decide +kernel)) (fun _ h9 => h9) rfl dX0_product_34 ?_
      refine lv_iload_n hx hb dX0_product_37 rfl (lv_at hl 1 rfl) ?_
      obtain ⟨hn11, h⟩ := dm_gs h
      refine va_iald hx hb hK hP 2 0 rfl rfl hn11 dX0_product_38 ?_
      refine lv_aload_n hx hb dX0_product_39 rfl (lv_at hl 0 rfl) ?_
      refine va_get (D := (dC, dI)) (ci := 0) (v := .ref tqb) (C := RX0) (T := TX0) (N := 6) hx hb hts hinX0 hown hK hP 0 rfl rfl 1 (by decide) (hts (.fieldLink RX0 15 "FormDesk$ClassList" "b" "[I") (by decide +kernel)) (fun _ h9 => h9) rfl dX0_product_40 ?_
      refine lv_iload_n hx hb dX0_product_43 rfl (lv_at hl 2 rfl) ?_
      obtain ⟨hn12, h⟩ := dm_gs h
      refine va_iald hx hb hK hP 2 0 rfl rfl hn12 dX0_product_44 ?_
      refine lv_iadd hx hb dX0_product_45 ?_
      refine lv_iconst (v := 2) hx hb dX0_product_46 (by decide) ?_
      refine lv_idiv hx hb dX0_product_47 (by decide) ?_
      obtain ⟨r13, hk14, h⟩ := dm_b1s h
      refine mc_i (wr := [(th, .inr (0, [.ref tqa, .ref tqb, .ref tqc, .ref tzh, .int tdd, .int tsz])), (tqa, .inl (cyI, 40, .inl tfa)), (tqb, .inl (cyI, 40, .inl tfb)), (tqc, .inl (cyI, 40, .inl tfc)), (tzh, .inr (1, [.int tzra, .int tzrb, .int tzrc, .int tzrp, .int tzrq, .int tzrr, .int tzrs, .int tzrd]))]) (va_runSN (As := [.int r9, .int (((tfb (p0).toNatClampNeg) + (tfb (p1).toNatClampNeg)) / (2 : Int32))]) (rest := []) ⟨hx, hb, hml, hown, hts⟩ (c_X3_gcd l dC dI cyI cyJ cyC H.size r9 (((tfb (p0).toNatClampNeg) + (tfb (p1).toNatClampNeg)) / (2 : Int32)) r13 hk14) ⟨va_cnB 2 hts gX0_product_X3_gcd_n43 rfl rfl rfl (hnw _ (by decide +kernel : Cond.methodLinkNest RX0 43 yX3_gcd "FormDesk" ∈ mc_nws)) (hts (.initialized RX3) (by decide +kernel)) (by decide +kernel) ⟨(Nat.le_of_ble_eq_true rfl), (Nat.le_of_ble_eq_true rfl)⟩, hts (.static yX3_gcd) (by decide +kernel), trivial⟩ (mc_preS hK (hP.sub (ws' := []) [] rfl) (hD.sub (ws' := []) [] (by decide) rfl) hnw) rfl rfl hl.1 rfl (lv_room (Nat.le_of_ble_eq_true rfl)) dX0_product_48 ⟨Nat.zero_le _, Nat.zero_le _⟩) hP hD hS hA [] [0, 1, 2, 3, 4] rfl rfl rfl (by decide) (fun H locs hP hD hS => ?_)
      have hP : va_P (dC, dI) vwCl [(th, .inr (0, [.ref tqa, .ref tqb, .ref tqc, .ref tzh, .int tdd, .int tsz])), (tqa, .inl (cyI, 40, .inl tfa)), (tqb, .inl (cyI, 40, .inl tfb)), (tqc, .inl (cyI, 40, .inl tfc)), (tzh, .inr (1, [.int tzra, .int tzrb, .int tzrc, .int tzrp, .int tzrq, .int tzrr, .int tzrs, .int tzrd]))] H := hP
      have hD : va_D A [(th, .inr (0, [.ref tqa, .ref tqb, .ref tqc, .ref tzh, .int tdd, .int tsz])), (tqa, .inl (cyI, 40, .inl tfa)), (tqb, .inl (cyI, 40, .inl tfb)), (tqc, .inl (cyI, 40, .inl tfc)), (tzh, .inr (1, [.int tzra, .int tzrb, .int tzrc, .int tzrp, .int tzrq, .int tzrr, .int tzrs, .int tzrd]))] := hD
      refine lv_istore_n (lv' := [(3, .int r13), (0, .ref th), (1, .int p0), (2, .int p1)]) hx hb dX0_product_51 rfl hl (by decide) rfl (fun ls hl => ?_)
      refine lv_iload_n hx hb dX0_product_52 rfl (lv_at hl 0 rfl) ?_
      refine lv_if_ne (tgt := 58) hx hb dX0_product_53 (by decide) (fun hc15 => ?_) (fun hc15 => ?_)
      · have h := dm_f hc15 h
        refine lv_aload_n hx hb dX0_product_58 rfl (lv_at hl 1 rfl) ?_
        refine va_get (D := (dC, dI)) (ci := 0) (v := .ref tqa) (C := RX0) (T := TX0) (N := 6) hx hb hts hinX0 hown hK hP 0 rfl rfl 0 (by decide) (hts (.fieldLink RX0 9 "FormDesk$ClassList" "a" "[I") (by decide +kernel)) (fun _ h9 => h9) rfl dX0_product_59 ?_
        refine lv_iload_n hx hb dX0_product_62 rfl (lv_at hl 2 rfl) ?_
        obtain ⟨hn16, h⟩ := dm_gs h
        refine va_iald hx hb hK hP 1 0 rfl rfl hn16 dX0_product_63 ?_
        refine lv_iload_n hx hb dX0_product_64 rfl (lv_at hl 0 rfl) ?_
        obtain ⟨hn17, h⟩ := dm_gs h
        refine lv_idiv hx hb dX0_product_65 hn17 ?_
        refine lv_topi (fun x18 ex18 => ?_)
        have h := dm_lu ex18 h
        refine lv_istore (lv' := [(4, .int x18), (3, .int r13), (0, .ref th), (1, .int p0), (2, .int p1)]) hx hb dX0_product_66 hl (by decide) rfl (fun ls hl => ?_)
        refine lv_aload_n hx hb dX0_product_68 rfl (lv_at hl 2 rfl) ?_
        refine va_get (D := (dC, dI)) (ci := 0) (v := .ref tqa) (C := RX0) (T := TX0) (N := 6) hx hb hts hinX0 hown hK hP 0 rfl rfl 0 (by decide) (hts (.fieldLink RX0 9 "FormDesk$ClassList" "a" "[I") (by decide +kernel)) (fun _ h9 => h9) rfl dX0_product_69 ?_
        refine lv_iload_n hx hb dX0_product_72 rfl (lv_at hl 4 rfl) ?_
        obtain ⟨hn19, h⟩ := dm_gs h
        refine va_iald hx hb hK hP 1 0 rfl rfl hn19 dX0_product_73 ?_
        refine lv_iload_n hx hb dX0_product_74 rfl (lv_at hl 1 rfl) ?_
        obtain ⟨hn20, h⟩ := dm_gs h
        refine lv_idiv hx hb dX0_product_75 hn20 ?_
        refine lv_topi (fun x21 ex21 => ?_)
        have h := dm_lu ex21 h
        refine lv_istore (lv' := [(5, .int x21), (4, .int x18), (3, .int r13), (0, .ref th), (1, .int p0), (2, .int p1)]) hx hb dX0_product_76 hl (by decide) rfl (fun ls hl => ?_)
        refine lv_aload_n hx hb dX0_product_78 rfl (lv_at hl 3 rfl) ?_
        refine lv_iload hx hb dX0_product_79 (lv_at hl 1 rfl) ?_
        refine lv_aload_n hx hb dX0_product_81 rfl (lv_at hl 3 rfl) ?_
        refine va_get (D := (dC, dI)) (ci := 0) (v := .ref tqb) (C := RX0) (T := TX0) (N := 6) hx hb hts hinX0 hown hK hP 0 rfl rfl 1 (by decide) (hts (.fieldLink RX0 15 "FormDesk$ClassList" "b" "[I") (by decide +kernel)) (fun _ h9 => h9) rfl dX0_product_82 ?_
        refine lv_iload_n hx hb dX0_product_85 rfl (lv_at hl 4 rfl) ?_
        obtain ⟨hn22, h⟩ := dm_gs h
        refine va_iald hx hb hK hP 2 0 rfl rfl hn22 dX0_product_86 ?_
        refine lv_iload hx hb dX0_product_87 (lv_at hl 0 rfl) ?_
        refine lv_aload_n hx hb dX0_product_89 rfl (lv_at hl 3 rfl) ?_
        refine va_get (D := (dC, dI)) (ci := 0) (v := .ref tqb) (C := RX0) (T := TX0) (N := 6) hx hb hts hinX0 hown hK hP 0 rfl rfl 1 (by decide) (hts (.fieldLink RX0 15 "FormDesk$ClassList" "b" "[I") (by decide +kernel)) (fun _ h9 => h9) rfl dX0_product_90 ?_
        refine lv_iload_n hx hb dX0_product_93 rfl (lv_at hl 5 rfl) ?_
        obtain ⟨hn23, h⟩ := dm_gs h
        refine va_iald hx hb hK hP 2 0 rfl rfl hn23 dX0_product_94 ?_
        refine lv_iload_n hx hb dX0_product_95 rfl (lv_at hl 2 rfl) ?_
        obtain ⟨r24, hk25, h⟩ := dm_b1s h
        refine mc_i (wr := []) (va_runV (As := [.int x18, .int (tfb (p0).toNatClampNeg), .int x21, .int (tfb (p1).toNatClampNeg), .int r13]) (rest := []) ⟨hx, hb, hml, hown, hts⟩ (c_X0_middleOfProduct l dC dI cyI cyJ cyC th tqa tqb tqc tzh H.size tfa tfb tfc tdd tsz tzra tzrb tzrc tzrp tzrq tzrr tzrs tzrd x18 (tfb (p0).toNatClampNeg) x21 (tfb (p1).toNatClampNeg) r13 r24 hk25) (cwV 5 hts gX0_product_X0_middleOfProduct rfl rfl rfl (by decide +kernel) ⟨(Nat.le_of_ble_eq_true rfl), (Nat.le_of_ble_eq_true rfl)⟩) (mc_preV hK (hP.sub (ws' := [(th, .inr (0, [.ref tqa, .ref tqb, .ref tqc, .ref tzh, .int tdd, .int tsz])), (tqa, .inl (cyI, 40, .inl tfa)), (tqb, .inl (cyI, 40, .inl tfb)), (tqc, .inl (cyI, 40, .inl tfc)), (tzh, .inr (1, [.int tzra, .int tzrb, .int tzrc, .int tzrp, .int tzrq, .int tzrr, .int tzrs, .int tzrd]))]) [0, 1, 2, 3, 4] rfl) (hD.sub (ws' := [(th, .inr (0, [.ref tqa, .ref tqb, .ref tqc, .ref tzh, .int tdd, .int tsz])), (tqa, .inl (cyI, 40, .inl tfa)), (tqb, .inl (cyI, 40, .inl tfb)), (tqc, .inl (cyI, 40, .inl tfc)), (tzh, .inr (1, [.int tzra, .int tzrb, .int tzrc, .int tzrp, .int tzrq, .int tzrr, .int tzrs, .int tzrd]))]) [0, 1, 2, 3, 4] (by decide) rfl) hnw rfl rfl) rfl rfl hl.1 rfl (lv_room (Nat.le_of_ble_eq_true rfl)) dX0_product_96 ⟨Nat.zero_le _, Nat.zero_le _⟩) hP hD hS hA [0, 1, 2, 3, 4] [] rfl rfl rfl (by decide) (fun H locs hP hD hS => ?_)
        have hP : va_P (dC, dI) vwCl [(th, .inr (0, [.ref tqa, .ref tqb, .ref tqc, .ref tzh, .int tdd, .int tsz])), (tqa, .inl (cyI, 40, .inl tfa)), (tqb, .inl (cyI, 40, .inl tfb)), (tqc, .inl (cyI, 40, .inl tfc)), (tzh, .inr (1, [.int tzra, .int tzrb, .int tzrc, .int tzrp, .int tzrq, .int tzrr, .int tzrs, .int tzrd]))] H := hP
        have hD : va_D A [(th, .inr (0, [.ref tqa, .ref tqb, .ref tqc, .ref tzh, .int tdd, .int tsz])), (tqa, .inl (cyI, 40, .inl tfa)), (tqb, .inl (cyI, 40, .inl tfb)), (tqc, .inl (cyI, 40, .inl tfc)), (tzh, .inr (1, [.int tzra, .int tzrb, .int tzrc, .int tzrp, .int tzrq, .int tzrr, .int tzrs, .int tzrd]))] := hD
        refine lv_istore (lv' := [(6, .int r24), (5, .int x21), (4, .int x18), (3, .int r13), (0, .ref th), (1, .int p0), (2, .int p1)]) hx hb dX0_product_99 hl (by decide) rfl (fun ls hl => ?_)
        refine lv_iload hx hb dX0_product_101 (lv_at hl 0 rfl) ?_
        refine lv_iload hx hb dX0_product_103 (lv_at hl 0 rfl) ?_
        refine lv_imul hx hb dX0_product_105 ?_
        refine lv_aload_n hx hb dX0_product_106 rfl (lv_at hl 4 rfl) ?_
        refine va_get (D := (dC, dI)) (ci := 0) (v := .int tdd) (C := RX0) (T := TX0) (N := 6) hx hb hts hinX0 hown hK hP 0 rfl rfl 4 (by decide) (hts (.fieldLink RX0 28 "FormDesk$ClassList" "discriminant" "I") (by decide +kernel)) (fun _ h9 => h9) rfl dX0_product_107 ?_
        refine lv_isub hx hb dX0_product_110 ?_
        refine lv_topi (fun x26 ex26 => ?_)
        have h := dm_lu ex26 h
        refine lv_istore (lv' := [(7, .int x26), (6, .int r24), (5, .int x21), (4, .int x18), (3, .int r13), (0, .ref th), (1, .int p0), (2, .int p1)]) hx hb dX0_product_111 hl (by decide) rfl (fun ls hl => ?_)
        refine lv_iconst (v := 4) hx hb dX0_product_113 (by decide) ?_
        refine lv_iload hx hb dX0_product_114 (lv_at hl 3 rfl) ?_
        refine lv_imul hx hb dX0_product_116 ?_
        refine lv_iload hx hb dX0_product_117 (lv_at hl 2 rfl) ?_
        refine lv_imul hx hb dX0_product_119 ?_
        refine lv_topi (fun x27 ex27 => ?_)
        have h := dm_lu ex27 h
        refine lv_istore (lv' := [(8, .int x27), (7, .int x26), (6, .int r24), (5, .int x21), (4, .int x18), (3, .int r13), (0, .ref th), (1, .int p0), (2, .int p1)]) hx hb dX0_product_120 hl (by decide) rfl (fun ls hl => ?_)
        refine lv_iload hx hb dX0_product_122 (lv_at hl 0 rfl) ?_
        refine lv_iload hx hb dX0_product_124 (lv_at hl 1 rfl) ?_
        obtain ⟨r28, hk29, h⟩ := dm_b1s h
        refine mc_i (wr := [(th, .inr (0, [.ref tqa, .ref tqb, .ref tqc, .ref tzh, .int tdd, .int tsz])), (tqa, .inl (cyI, 40, .inl tfa)), (tqb, .inl (cyI, 40, .inl tfb)), (tqc, .inl (cyI, 40, .inl tfc)), (tzh, .inr (1, [.int tzra, .int tzrb, .int tzrc, .int tzrp, .int tzrq, .int tzrr, .int tzrs, .int tzrd]))]) (va_runSN (As := [.int x27, .int x26]) (rest := []) ⟨hx, hb, hml, hown, hts⟩ (c_X3_divides l dC dI cyI cyJ cyC H.size x27 x26 r28 hk29) ⟨va_cnB 2 hts gX0_product_X3_divides_n51 rfl rfl rfl (hnw _ (by decide +kernel : Cond.methodLinkNest RX0 51 yX3_divides "FormDesk" ∈ mc_nws)) (hts (.initialized RX3) (by decide +kernel)) (by decide +kernel) ⟨(Nat.le_of_ble_eq_true rfl), (Nat.le_of_ble_eq_true rfl)⟩, hts (.static yX3_divides) (by decide +kernel), trivial⟩ (mc_preS hK (hP.sub (ws' := []) [] rfl) (hD.sub (ws' := []) [] (by decide) rfl) hnw) rfl rfl hl.1 rfl (lv_room (Nat.le_of_ble_eq_true rfl)) dX0_product_126 ⟨Nat.zero_le _, Nat.zero_le _⟩) hP hD hS hA [] [0, 1, 2, 3, 4] rfl rfl rfl (by decide) (fun H locs hP hD hS => ?_)
        have hP : va_P (dC, dI) vwCl [(th, .inr (0, [.ref tqa, .ref tqb, .ref tqc, .ref tzh, .int tdd, .int tsz])), (tqa, .inl (cyI, 40, .inl tfa)), (tqb, .inl (cyI, 40, .inl tfb)), (tqc, .inl (cyI, 40, .inl tfc)), (tzh, .inr (1, [.int tzra, .int tzrb, .int tzrc, .int tzrp, .int tzrq, .int tzrr, .int tzrs, .int tzrd]))] H := hP
        have hD : va_D A [(th, .inr (0, [.ref tqa, .ref tqb, .ref tqc, .ref tzh, .int tdd, .int tsz])), (tqa, .inl (cyI, 40, .inl tfa)), (tqb, .inl (cyI, 40, .inl tfb)), (tqc, .inl (cyI, 40, .inl tfc)), (tzh, .inr (1, [.int tzra, .int tzrb, .int tzrc, .int tzrp, .int tzrq, .int tzrr, .int tzrs, .int tzrd]))] := hD
        refine lv_if_ne (tgt := 134) hx hb dX0_product_129 (by decide) (fun hc30 => ?_) (fun hc30 => ?_)
        · have h := dm_f hc30 h
          refine lv_aload_n hx hb dX0_product_134 rfl (lv_at hl 6 rfl) ?_
          refine va_get (D := (dC, dI)) (ci := 0) (v := .ref tzh) (C := RX0) (T := TX0) (N := 6) hx hb hts hinX0 hown hK hP 0 rfl rfl 3 (by decide) (hts (.fieldLink RX0 24 "FormDesk$ClassList" "composed" "LFormDesk$Reduction;") (by decide +kernel)) (fun _ h9 => h9) rfl dX0_product_135 ?_
          refine lv_iload hx hb dX0_product_138 (lv_at hl 4 rfl) ?_
          refine lv_iload hx hb dX0_product_140 (lv_at hl 3 rfl) ?_
          refine lv_imul hx hb dX0_product_142 ?_
          refine lv_iload hx hb dX0_product_143 (lv_at hl 2 rfl) ?_
          refine lv_iload hx hb dX0_product_145 (lv_at hl 1 rfl) ?_
          refine lv_iload hx hb dX0_product_147 (lv_at hl 0 rfl) ?_
          obtain ⟨hn31, h⟩ := dm_gs h
          refine lv_idiv hx hb dX0_product_149 hn31 ?_
          obtain ⟨r32, w33, w34, w35, w36, w37, w38, w39, w40, hk41, h⟩ := dm_b9s h
          refine mc_i (wr := [(th, .inr (0, [.ref tqa, .ref tqb, .ref tqc, .ref tzh, .int tdd, .int tsz])), (tqa, .inl (cyI, 40, .inl tfa)), (tqb, .inl (cyI, 40, .inl tfb)), (tqc, .inl (cyI, 40, .inl tfc))]) (va_runV (As := [.int (x18 * x21), .int r24, .int (x26 / x27)]) (rest := []) ⟨hx, hb, hml, hown, hts⟩ (c_X1_run l dC dI cyI cyJ cyC tzh H.size tzra tzrb tzrc tzrp tzrq tzrr tzrs tzrd (x18 * x21) r24 (x26 / x27) r32 w33 w34 w35 w36 w37 w38 w39 w40 hk41) (cwV 3 hts gX0_product_X1_run rfl rfl rfl (by decide +kernel) ⟨(Nat.le_of_ble_eq_true rfl), (Nat.le_of_ble_eq_true rfl)⟩) (mc_preV hK (hP.sub (ws' := [(tzh, .inr (1, [.int tzra, .int tzrb, .int tzrc, .int tzrp, .int tzrq, .int tzrr, .int tzrs, .int tzrd]))]) [4] rfl) (hD.sub (ws' := [(tzh, .inr (1, [.int tzra, .int tzrb, .int tzrc, .int tzrp, .int tzrq, .int tzrr, .int tzrs, .int tzrd]))]) [4] (by decide) rfl) hnw rfl rfl) rfl rfl hl.1 rfl (lv_room (Nat.le_of_ble_eq_true rfl)) dX0_product_150 ⟨Nat.zero_le _, Nat.zero_le _⟩) hP hD hS hA [4] [0, 1, 2, 3] rfl rfl rfl (by decide) (fun H locs hP hD hS => ?_)
          have hP : va_P (dC, dI) vwCl [(th, .inr (0, [.ref tqa, .ref tqb, .ref tqc, .ref tzh, .int tdd, .int tsz])), (tqa, .inl (cyI, 40, .inl tfa)), (tqb, .inl (cyI, 40, .inl tfb)), (tqc, .inl (cyI, 40, .inl tfc)), (tzh, .inr (1, [.int w33, .int w34, .int w35, .int w36, .int w37, .int w38, .int w39, .int w40]))] H := hP
          have hD : va_D A [(th, .inr (0, [.ref tqa, .ref tqb, .ref tqc, .ref tzh, .int tdd, .int tsz])), (tqa, .inl (cyI, 40, .inl tfa)), (tqb, .inl (cyI, 40, .inl tfb)), (tqc, .inl (cyI, 40, .inl tfc)), (tzh, .inr (1, [.int w33, .int w34, .int w35, .int w36, .int w37, .int w38, .int w39, .int w40]))] := hD
          refine lv_pop hx hb dX0_product_153 rfl ?_
          refine lv_aload_n hx hb dX0_product_154 rfl (lv_at hl 6 rfl) ?_
          refine lv_aload_n hx hb dX0_product_155 rfl (lv_at hl 6 rfl) ?_
          refine va_get (D := (dC, dI)) (ci := 0) (v := .ref tzh) (C := RX0) (T := TX0) (N := 6) hx hb hts hinX0 hown hK hP 0 rfl rfl 3 (by decide) (hts (.fieldLink RX0 24 "FormDesk$ClassList" "composed" "LFormDesk$Reduction;") (by decide +kernel)) (fun _ h9 => h9) rfl dX0_product_156 ?_
          refine va_getN (D := (dC, dI)) (ci := 1) (v := .int w33) (C := RX1) (T := TX1) (N := 8) hx hb hts hinX1 hown hK hP 4 rfl rfl 0 (by decide) (va_Nw.use rfl (hnw _ (by decide +kernel : Cond.fieldLinkNest RX0 58 "FormDesk$Reduction" "a" "I" "FormDesk" ∈ mc_nws))) (fun _ h9 => h9) rfl dX0_product_159 ?_
          refine lv_aload_n hx hb dX0_product_162 rfl (lv_at hl 6 rfl) ?_
          refine va_get (D := (dC, dI)) (ci := 0) (v := .ref tzh) (C := RX0) (T := TX0) (N := 6) hx hb hts hinX0 hown hK hP 0 rfl rfl 3 (by decide) (hts (.fieldLink RX0 24 "FormDesk$ClassList" "composed" "LFormDesk$Reduction;") (by decide +kernel)) (fun _ h9 => h9) rfl dX0_product_163 ?_
          refine va_getN (D := (dC, dI)) (ci := 1) (v := .int w34) (C := RX1) (T := TX1) (N := 8) hx hb hts hinX1 hown hK hP 4 rfl rfl 1 (by decide) (va_Nw.use rfl (hnw _ (by decide +kernel : Cond.fieldLinkNest RX0 60 "FormDesk$Reduction" "b" "I" "FormDesk" ∈ mc_nws))) (fun _ h9 => h9) rfl dX0_product_166 ?_
          obtain ⟨r42, hk43, h⟩ := dm_b1s h
          refine mc_i (wr := []) (va_runV (As := [.int w33, .int w34]) (rest := []) ⟨hx, hb, hml, hown, hts⟩ (c_X0_find l dC dI cyI cyJ cyC th tqa tqb tqc tzh H.size tfa tfb tfc tdd tsz w33 w34 w35 w36 w37 w38 w39 w40 w33 w34 r42 hk43) (cwV 2 hts gX0_product_X0_find rfl rfl rfl (by decide +kernel) ⟨(Nat.le_of_ble_eq_true rfl), (Nat.le_of_ble_eq_true rfl)⟩) (mc_preV hK (hP.sub (ws' := [(th, .inr (0, [.ref tqa, .ref tqb, .ref tqc, .ref tzh, .int tdd, .int tsz])), (tqa, .inl (cyI, 40, .inl tfa)), (tqb, .inl (cyI, 40, .inl tfb)), (tqc, .inl (cyI, 40, .inl tfc)), (tzh, .inr (1, [.int w33, .int w34, .int w35, .int w36, .int w37, .int w38, .int w39, .int w40]))]) [0, 1, 2, 3, 4] rfl) (hD.sub (ws' := [(th, .inr (0, [.ref tqa, .ref tqb, .ref tqc, .ref tzh, .int tdd, .int tsz])), (tqa, .inl (cyI, 40, .inl tfa)), (tqb, .inl (cyI, 40, .inl tfb)), (tqc, .inl (cyI, 40, .inl tfc)), (tzh, .inr (1, [.int w33, .int w34, .int w35, .int w36, .int w37, .int w38, .int w39, .int w40]))]) [0, 1, 2, 3, 4] (by decide) rfl) hnw rfl rfl) rfl rfl hl.1 rfl (lv_room (Nat.le_of_ble_eq_true rfl)) dX0_product_169 ⟨Nat.zero_le _, Nat.zero_le _⟩) hP hD hS hA [0, 1, 2, 3, 4] [] rfl rfl rfl (by decide) (fun H locs hP hD hS => ?_)
          have hP : va_P (dC, dI) vwCl [(th, .inr (0, [.ref tqa, .ref tqb, .ref tqc, .ref tzh, .int tdd, .int tsz])), (tqa, .inl (cyI, 40, .inl tfa)), (tqb, .inl (cyI, 40, .inl tfb)), (tqc, .inl (cyI, 40, .inl tfc)), (tzh, .inr (1, [.int w33, .int w34, .int w35, .int w36, .int w37, .int w38, .int w39, .int w40]))] H := hP
          have hD : va_D A [(th, .inr (0, [.ref tqa, .ref tqb, .ref tqc, .ref tzh, .int tdd, .int tsz])), (tqa, .inl (cyI, 40, .inl tfa)), (tqb, .inl (cyI, 40, .inl tfb)), (tqc, .inl (cyI, 40, .inl tfc)), (tzh, .inr (1, [.int w33, .int w34, .int w35, .int w36, .int w37, .int w38, .int w39, .int w40]))] := hD
          obtain ⟨hE0, hE1, hE2, hE3, hE4, hE5, hE6, hE7, hE8⟩ := dm_i9 h
          subst hE0; subst hE1; subst hE2; subst hE3; subst hE4; subst hE5; subst hE6; subst hE7; subst hE8
          rw [hQQ]
          have hP9 := hP.sub (ws' := [(th, .inr (0, [.ref tqa, .ref tqb, .ref tqc, .ref tzh, .int tdd, .int tsz])), (tqa, .inl (cyI, 40, .inl tfa)), (tqb, .inl (cyI, 40, .inl tfb)), (tqc, .inl (cyI, 40, .inl tfc)), (tzh, .inr (1, [.int w33, .int w34, .int w35, .int w36, .int w37, .int w38, .int w39, .int w40]))]) [0, 1, 2, 3, 4] rfl
          have hD9 := hD.sub (ws' := [(th, .inr (0, [.ref tqa, .ref tqb, .ref tqc, .ref tzh, .int tdd, .int tsz])), (tqa, .inl (cyI, 40, .inl tfa)), (tqb, .inl (cyI, 40, .inl tfb)), (tqc, .inl (cyI, 40, .inl tfc)), (tzh, .inr (1, [.int w33, .int w34, .int w35, .int w36, .int w37, .int w38, .int w39, .int w40]))]) [0, 1, 2, 3, 4] (by decide) rfl
          exact W.iret (v := r42) hx hb hr (fun t ht hW => ⟨⟨r42, (), rfl, rfl, by rw [ht]; exact hP9, hD9⟩, hS.F ht⟩) hS.2.2 dX0_product_172
        · have h := dm_t hc30 h
          refine lv_iconst (v := -1) hx hb dX0_product_132 (by decide) ?_
          obtain ⟨hE0, hE1, hE2, hE3, hE4, hE5, hE6, hE7, hE8⟩ := dm_i9 h
          subst hE0; subst hE1; subst hE2; subst hE3; subst hE4; subst hE5; subst hE6; subst hE7; subst hE8
          rw [hQQ]
          have hP9 := hP.sub (ws' := [(th, .inr (0, [.ref tqa, .ref tqb, .ref tqc, .ref tzh, .int tdd, .int tsz])), (tqa, .inl (cyI, 40, .inl tfa)), (tqb, .inl (cyI, 40, .inl tfb)), (tqc, .inl (cyI, 40, .inl tfc)), (tzh, .inr (1, [.int tzra, .int tzrb, .int tzrc, .int tzrp, .int tzrq, .int tzrr, .int tzrs, .int tzrd]))]) [0, 1, 2, 3, 4] rfl
          have hD9 := hD.sub (ws' := [(th, .inr (0, [.ref tqa, .ref tqb, .ref tqc, .ref tzh, .int tdd, .int tsz])), (tqa, .inl (cyI, 40, .inl tfa)), (tqb, .inl (cyI, 40, .inl tfb)), (tqc, .inl (cyI, 40, .inl tfc)), (tzh, .inr (1, [.int tzra, .int tzrb, .int tzrc, .int tzrp, .int tzrq, .int tzrr, .int tzrs, .int tzrd]))]) [0, 1, 2, 3, 4] (by decide) rfl
          exact W.iret (v := (-1 : Int32)) hx hb hr (fun t ht hW => ⟨⟨(-1 : Int32), (), rfl, rfl, by rw [ht]; exact hP9, hD9⟩, hS.F ht⟩) hS.2.2 dX0_product_133
      · have h := dm_t hc15 h
        refine lv_iconst (v := -1) hx hb dX0_product_56 (by decide) ?_
        obtain ⟨hE0, hE1, hE2, hE3, hE4, hE5, hE6, hE7, hE8⟩ := dm_i9 h
        subst hE0; subst hE1; subst hE2; subst hE3; subst hE4; subst hE5; subst hE6; subst hE7; subst hE8
        rw [hQQ]
        have hP9 := hP.sub (ws' := [(th, .inr (0, [.ref tqa, .ref tqb, .ref tqc, .ref tzh, .int tdd, .int tsz])), (tqa, .inl (cyI, 40, .inl tfa)), (tqb, .inl (cyI, 40, .inl tfb)), (tqc, .inl (cyI, 40, .inl tfc)), (tzh, .inr (1, [.int tzra, .int tzrb, .int tzrc, .int tzrp, .int tzrq, .int tzrr, .int tzrs, .int tzrd]))]) [0, 1, 2, 3, 4] rfl
        have hD9 := hD.sub (ws' := [(th, .inr (0, [.ref tqa, .ref tqb, .ref tqc, .ref tzh, .int tdd, .int tsz])), (tqa, .inl (cyI, 40, .inl tfa)), (tqb, .inl (cyI, 40, .inl tfb)), (tqc, .inl (cyI, 40, .inl tfc)), (tzh, .inr (1, [.int tzra, .int tzrb, .int tzrc, .int tzrp, .int tzrq, .int tzrr, .int tzrs, .int tzrd]))]) [0, 1, 2, 3, 4] (by decide) rfl
        exact W.iret (v := (-1 : Int32)) hx hb hr (fun t ht hW => ⟨⟨(-1 : Int32), (), rfl, rfl, by rw [ht]; exact hP9, hD9⟩, hS.F ht⟩) hS.2.2 dX0_product_57
    · have h := dm_t hc6 h
      refine lv_iconst (v := -1) hx hb dX0_product_16 (by decide) ?_
      obtain ⟨hE0, hE1, hE2, hE3, hE4, hE5, hE6, hE7, hE8⟩ := dm_i9 h
      subst hE0; subst hE1; subst hE2; subst hE3; subst hE4; subst hE5; subst hE6; subst hE7; subst hE8
      rw [hQQ]
      have hP9 := hP.sub (ws' := [(th, .inr (0, [.ref tqa, .ref tqb, .ref tqc, .ref tzh, .int tdd, .int tsz])), (tqa, .inl (cyI, 40, .inl tfa)), (tqb, .inl (cyI, 40, .inl tfb)), (tqc, .inl (cyI, 40, .inl tfc)), (tzh, .inr (1, [.int tzra, .int tzrb, .int tzrc, .int tzrp, .int tzrq, .int tzrr, .int tzrs, .int tzrd]))]) [0, 1, 2, 3, 4] rfl
      have hD9 := hD.sub (ws' := [(th, .inr (0, [.ref tqa, .ref tqb, .ref tqc, .ref tzh, .int tdd, .int tsz])), (tqa, .inl (cyI, 40, .inl tfa)), (tqb, .inl (cyI, 40, .inl tfb)), (tqc, .inl (cyI, 40, .inl tfc)), (tzh, .inr (1, [.int tzra, .int tzrb, .int tzrc, .int tzrp, .int tzrq, .int tzrr, .int tzrs, .int tzrd]))]) [0, 1, 2, 3, 4] (by decide) rfl
      exact W.iret (v := (-1 : Int32)) hx hb hr (fun t ht hW => ⟨⟨(-1 : Int32), (), rfl, rfl, by rw [ht]; exact hP9, hD9⟩, hS.F ht⟩) hS.2.2 dX0_product_17

def f_X0_opposite (tfa : Nat → Int32) (tfb : Nat → Int32) (tsz : Int32) (p0 : Int32) : Option (Int32) :=
  dm_b1 (f_X0_has tsz p0) fun r1 =>
  if r1 = 0 then
    some (-1 : Int32)
  else
    dm_g (¬ (p0 < 0 ∨ 40 ≤ (p0).toNatClampNeg)) <|
    dm_g (¬ (p0 < 0 ∨ 40 ≤ (p0).toNatClampNeg)) <|
    dm_b1 (f_X0_find tfa tfb tsz (tfa (p0).toNatClampNeg) (-(tfb (p0).toNatClampNeg))) fun r6 =>
    if r6 = (-1 : Int32) then
      some p0
    else
      some r6
set_option maxHeartbeats 4000000 in
set_option maxRecDepth 100000 in
theorem c_X0_opposite (l : Launch) (dC : Nat → ClassId) (dI : Nat → Nat → Nat) (cyI cyJ cyC : ClassId) (th tqa tqb tqc tzh : Nat) (sz : Nat) (tfa : Nat → Int32) (tfb : Nat → Int32) (tfc : Nat → Int32) (tdd : Int32) (tsz : Int32) (tzra : Int32) (tzrb : Int32) (tzrc : Int32) (tzrp : Int32) (tzrq : Int32) (tzrr : Int32) (tzrs : Int32) (tzrd : Int32) (p0 : Int32) (rv : Int32) (hf : f_X0_opposite tfa tfb tsz p0 = some rv) : Met l yX0_opposite wsX0_opposite { frames := 1, cells := 0, slots := 0, locals := 23 } (va_Pc [.ref th, .int p0] (mc_Pre (dC, dI) (mc_tys cyI cyJ cyC) [(th, .inr (0, [.ref tqa, .ref tqb, .ref tqc, .ref tzh, .int tdd, .int tsz])), (tqa, .inl (cyI, 40, .inl tfa)), (tqb, .inl (cyI, 40, .inl tfb)), (tqc, .inl (cyI, 40, .inl tfc)), (tzh, .inr (1, [.int tzra, .int tzrb, .int tzrc, .int tzrp, .int tzrq, .int tzrr, .int tzrs, .int tzrd]))] sz)) (va_Qi (fun r (_ : Unit) => r = rv) (fun _ t => mc_Post (dC, dI) (va_A [(th, .inr (0, [.ref tqa, .ref tqb, .ref tqc, .ref tzh, .int tdd, .int tsz])), (tqa, .inl (cyI, 40, .inl tfa)), (tqb, .inl (cyI, 40, .inl tfb)), (tqc, .inl (cyI, 40, .inl tfc)), (tzh, .inr (1, [.int tzra, .int tzrb, .int tzrc, .int tzrp, .int tzrq, .int tzrr, .int tzrs, .int tzrd]))] sz) [(th, .inr (0, [.ref tqa, .ref tqb, .ref tqc, .ref tzh, .int tdd, .int tsz])), (tqa, .inl (cyI, 40, .inl tfa)), (tqb, .inl (cyI, 40, .inl tfb)), (tqc, .inl (cyI, 40, .inl tfc)), (tzh, .inr (1, [.int tzra, .int tzrb, .int tzrc, .int tzrp, .int tzrq, .int tzrr, .int tzrs, .int tzrd]))] t) (va_A [(th, .inr (0, [.ref tqa, .ref tqb, .ref tqc, .ref tzh, .int tdd, .int tsz])), (tqa, .inl (cyI, 40, .inl tfa)), (tqb, .inl (cyI, 40, .inl tfb)), (tqc, .inl (cyI, 40, .inl tfc)), (tzh, .inr (1, [.int tzra, .int tzrb, .int tzrc, .int tzrp, .int tzrq, .int tzrr, .int tzrs, .int tzrd]))] sz)) 0 0 (va_A [(th, .inr (0, [.ref tqa, .ref tqb, .ref tqc, .ref tzh, .int tdd, .int tsz])), (tqa, .inl (cyI, 40, .inl tfa)), (tqb, .inl (cyI, 40, .inl tfb)), (tqc, .inl (cyI, 40, .inl tfc)), (tzh, .inr (1, [.int tzra, .int tzrb, .int tzrc, .int tzrp, .int tzrq, .int tzrr, .int tzrs, .int tzrd]))] sz) := by
  refine Met.ofW (cc := cX0_opposite) (maxL := 3) (ret := (some .int)) (by decide +kernel) rfl ?_
  intro p e s m args below meth c s₁ B hml hv
  obtain ⟨rfl, hsz, hP, hK, hD0, hnw⟩ := hv
  have hx := B.exec
  have hb := B.bytes
  have hr := B.returns
  have hts := atoms_spec (ws := wsX0_opposite) B.pre
  have hown : s.vm.findClass RX0 = some m.cls := findClass_of_methodNamed B.named
  have hlocks := B.notSynchronized
  have hinX0 : ∀ w ∈ wsX00, w ∈ wsX0_opposite := by decide +kernel
  subst hsz
  have hD := hD0.self (sz := s.heap.size)
  generalize hAe : va_A [(th, .inr (0, [.ref tqa, .ref tqb, .ref tqc, .ref tzh, .int tdd, .int tsz])), (tqa, .inl (cyI, 40, .inl tfa)), (tqb, .inl (cyI, 40, .inl tfb)), (tqc, .inl (cyI, 40, .inl tfc)), (tzh, .inr (1, [.int tzra, .int tzrb, .int tzrc, .int tzrp, .int tzrq, .int tzrr, .int tzrs, .int tzrd]))] s.heap.size = A at hD ⊢
  have hA : ∀ q : Nat, s.heap.size ≤ q → A q := fun q h => by rw [← hAe]; exact Or.inr h
  have hS : va_S A s.heap s.heap [] := va_S.rf
  have hP : va_P (dC, dI) vwCl [(th, .inr (0, [.ref tqa, .ref tqb, .ref tqc, .ref tzh, .int tdd, .int tsz])), (tqa, .inl (cyI, 40, .inl tfa)), (tqb, .inl (cyI, 40, .inl tfb)), (tqc, .inl (cyI, 40, .inl tfc)), (tzh, .inr (1, [.int tzra, .int tzrb, .int tzrc, .int tzrp, .int tzrq, .int tzrr, .int tzrs, .int tzrd]))] s.heap := hP
  have hl := lv_entry ([.ref th, .int p0]) (n := 3) (Nat.le_of_ble_eq_true rfl)
  rw [lg_entry_eq]
  generalize (lg_sl ([.ref th, .int p0]) ++ List.replicate (3 - (lg_sl ([.ref th, .int p0])).length) Slot.unset).toArray = ls at hl ⊢
  have hl : lv_has ls 3 [(0, .ref th), (1, .int p0)] := hl
  obtain ⟨QQ, hQQ⟩ : ∃ Q, Q = MQ below (va_Qi (fun r (_ : Unit) => r = rv) (fun _ t => mc_Post (dC, dI) A [(th, .inr (0, [.ref tqa, .ref tqb, .ref tqc, .ref tzh, .int tdd, .int tsz])), (tqa, .inl (cyI, 40, .inl tfa)), (tqb, .inl (cyI, 40, .inl tfb)), (tqc, .inl (cyI, 40, .inl tfc)), (tzh, .inr (1, [.int tzra, .int tzrb, .int tzrc, .int tzrp, .int tzrq, .int tzrr, .int tzrs, .int tzrd]))] t) A) ([Value.ref th, Value.int p0] : List Value).toArray s 0 0 A := ⟨_, rfl⟩
  rw [← hQQ]
  have h := hf
  unfold f_X0_opposite at h
  refine lv_aload_n hx hb dX0_opposite_0 rfl (lv_at hl 0 rfl) ?_
  refine lv_iload_n hx hb dX0_opposite_1 rfl (lv_at hl 1 rfl) ?_
  obtain ⟨r1, hk2, h⟩ := dm_b1s h
  refine mc_i (wr := []) (va_runV (As := [.int p0]) (rest := []) ⟨hx, hb, hml, hown, hts⟩ (c_X0_has l dC dI cyI cyJ cyC th tqa tqb tqc tzh s.heap.size tfa tfb tfc tdd tsz tzra tzrb tzrc tzrp tzrq tzrr tzrs tzrd p0 r1 hk2) (cwV 1 hts gX0_opposite_X0_has rfl rfl rfl (by decide +kernel) ⟨(Nat.le_of_ble_eq_true rfl), (Nat.le_of_ble_eq_true rfl)⟩) (mc_preV hK (hP.sub (ws' := [(th, .inr (0, [.ref tqa, .ref tqb, .ref tqc, .ref tzh, .int tdd, .int tsz])), (tqa, .inl (cyI, 40, .inl tfa)), (tqb, .inl (cyI, 40, .inl tfb)), (tqc, .inl (cyI, 40, .inl tfc)), (tzh, .inr (1, [.int tzra, .int tzrb, .int tzrc, .int tzrp, .int tzrq, .int tzrr, .int tzrs, .int tzrd]))]) [0, 1, 2, 3, 4] rfl) (hD.sub (ws' := [(th, .inr (0, [.ref tqa, .ref tqb, .ref tqc, .ref tzh, .int tdd, .int tsz])), (tqa, .inl (cyI, 40, .inl tfa)), (tqb, .inl (cyI, 40, .inl tfb)), (tqc, .inl (cyI, 40, .inl tfc)), (tzh, .inr (1, [.int tzra, .int tzrb, .int tzrc, .int tzrp, .int tzrq, .int tzrr, .int tzrs, .int tzrd]))]) [0, 1, 2, 3, 4] (by decide) rfl) hnw rfl rfl) rfl rfl hl.1 rfl (lv_room (Nat.le_of_ble_eq_true rfl)) dX0_opposite_2 ⟨Nat.zero_le _, Nat.zero_le _⟩) hP hD hS hA [0, 1, 2, 3, 4] [] rfl rfl rfl (by decide) (fun H locs hP hD hS => ?_)
  have hP : va_P (dC, dI) vwCl [(th, .inr (0, [.ref tqa, .ref tqb, .ref tqc, .ref tzh, .int tdd, .int tsz])), (tqa, .inl (cyI, 40, .inl tfa)), (tqb, .inl (cyI, 40, .inl tfb)), (tqc, .inl (cyI, 40, .inl tfc)), (tzh, .inr (1, [.int tzra, .int tzrb, .int tzrc, .int tzrp, .int tzrq, .int tzrr, .int tzrs, .int tzrd]))] H := hP
  have hD : va_D A [(th, .inr (0, [.ref tqa, .ref tqb, .ref tqc, .ref tzh, .int tdd, .int tsz])), (tqa, .inl (cyI, 40, .inl tfa)), (tqb, .inl (cyI, 40, .inl tfb)), (tqc, .inl (cyI, 40, .inl tfc)), (tzh, .inr (1, [.int tzra, .int tzrb, .int tzrc, .int tzrp, .int tzrq, .int tzrr, .int tzrs, .int tzrd]))] := hD
  refine lv_if_ne (tgt := 10) hx hb dX0_opposite_5 (by decide) (fun hc3 => ?_) (fun hc3 => ?_)
  · have h := dm_f hc3 h
    refine lv_aload_n hx hb dX0_opposite_10 rfl (lv_at hl 0 rfl) ?_
    refine lv_aload_n hx hb dX0_opposite_11 rfl (lv_at hl 0 rfl) ?_
    refine va_get (D := (dC, dI)) (ci := 0) (v := .ref tqa) (C := RX0) (T := TX0) (N := 6) hx hb hts hinX0 hown hK hP 0 rfl rfl 0 (by decide) (hts (.fieldLink RX0 9 "FormDesk$ClassList" "a" "[I") (by decide +kernel)) (fun _ h9 => h9) rfl dX0_opposite_12 ?_
    refine lv_iload_n hx hb dX0_opposite_15 rfl (lv_at hl 1 rfl) ?_
    obtain ⟨hn4, h⟩ := dm_gs h
    refine va_iald hx hb hK hP 1 0 rfl rfl hn4 dX0_opposite_16 ?_
    refine lv_aload_n hx hb dX0_opposite_17 rfl (lv_at hl 0 rfl) ?_
    refine va_get (D := (dC, dI)) (ci := 0) (v := .ref tqb) (C := RX0) (T := TX0) (N := 6) hx hb hts hinX0 hown hK hP 0 rfl rfl 1 (by decide) (hts (.fieldLink RX0 15 "FormDesk$ClassList" "b" "[I") (by decide +kernel)) (fun _ h9 => h9) rfl dX0_opposite_18 ?_
    refine lv_iload_n hx hb dX0_opposite_21 rfl (lv_at hl 1 rfl) ?_
    obtain ⟨hn5, h⟩ := dm_gs h
    refine va_iald hx hb hK hP 2 0 rfl rfl hn5 dX0_opposite_22 ?_
    refine lv_ineg hx hb dX0_opposite_23 ?_
    obtain ⟨r6, hk7, h⟩ := dm_b1s h
    refine mc_i (wr := []) (va_runV (As := [.int (tfa (p0).toNatClampNeg), .int (-(tfb (p0).toNatClampNeg))]) (rest := []) ⟨hx, hb, hml, hown, hts⟩ (c_X0_find l dC dI cyI cyJ cyC th tqa tqb tqc tzh H.size tfa tfb tfc tdd tsz tzra tzrb tzrc tzrp tzrq tzrr tzrs tzrd (tfa (p0).toNatClampNeg) (-(tfb (p0).toNatClampNeg)) r6 hk7) (cwV 2 hts gX0_opposite_X0_find rfl rfl rfl (by decide +kernel) ⟨(Nat.le_of_ble_eq_true rfl), (Nat.le_of_ble_eq_true rfl)⟩) (mc_preV hK (hP.sub (ws' := [(th, .inr (0, [.ref tqa, .ref tqb, .ref tqc, .ref tzh, .int tdd, .int tsz])), (tqa, .inl (cyI, 40, .inl tfa)), (tqb, .inl (cyI, 40, .inl tfb)), (tqc, .inl (cyI, 40, .inl tfc)), (tzh, .inr (1, [.int tzra, .int tzrb, .int tzrc, .int tzrp, .int tzrq, .int tzrr, .int tzrs, .int tzrd]))]) [0, 1, 2, 3, 4] rfl) (hD.sub (ws' := [(th, .inr (0, [.ref tqa, .ref tqb, .ref tqc, .ref tzh, .int tdd, .int tsz])), (tqa, .inl (cyI, 40, .inl tfa)), (tqb, .inl (cyI, 40, .inl tfb)), (tqc, .inl (cyI, 40, .inl tfc)), (tzh, .inr (1, [.int tzra, .int tzrb, .int tzrc, .int tzrp, .int tzrq, .int tzrr, .int tzrs, .int tzrd]))]) [0, 1, 2, 3, 4] (by decide) rfl) hnw rfl rfl) rfl rfl hl.1 rfl (lv_room (Nat.le_of_ble_eq_true rfl)) dX0_opposite_24 ⟨Nat.zero_le _, Nat.zero_le _⟩) hP hD hS hA [0, 1, 2, 3, 4] [] rfl rfl rfl (by decide) (fun H locs hP hD hS => ?_)
    have hP : va_P (dC, dI) vwCl [(th, .inr (0, [.ref tqa, .ref tqb, .ref tqc, .ref tzh, .int tdd, .int tsz])), (tqa, .inl (cyI, 40, .inl tfa)), (tqb, .inl (cyI, 40, .inl tfb)), (tqc, .inl (cyI, 40, .inl tfc)), (tzh, .inr (1, [.int tzra, .int tzrb, .int tzrc, .int tzrp, .int tzrq, .int tzrr, .int tzrs, .int tzrd]))] H := hP
    have hD : va_D A [(th, .inr (0, [.ref tqa, .ref tqb, .ref tqc, .ref tzh, .int tdd, .int tsz])), (tqa, .inl (cyI, 40, .inl tfa)), (tqb, .inl (cyI, 40, .inl tfb)), (tqc, .inl (cyI, 40, .inl tfc)), (tzh, .inr (1, [.int tzra, .int tzrb, .int tzrc, .int tzrp, .int tzrq, .int tzrr, .int tzrs, .int tzrd]))] := hD
    refine lv_istore_n (lv' := [(2, .int r6), (0, .ref th), (1, .int p0)]) hx hb dX0_opposite_27 rfl hl (by decide) rfl (fun ls hl => ?_)
    refine lv_iload_n hx hb dX0_opposite_28 rfl (lv_at hl 0 rfl) ?_
    refine lv_iconst (v := -1) hx hb dX0_opposite_29 (by decide) ?_
    refine lv_icmp_ne (tgt := 37) hx hb dX0_opposite_30 (by decide) (fun hc8 => ?_) (fun hc8 => ?_)
    · have h := dm_f hc8 h
      refine lv_iload_n hx hb dX0_opposite_37 rfl (lv_at hl 0 rfl) ?_
      obtain hE0 := dm_i1 h
      subst hE0
      rw [hQQ]
      have hP9 := hP.sub (ws' := [(th, .inr (0, [.ref tqa, .ref tqb, .ref tqc, .ref tzh, .int tdd, .int tsz])), (tqa, .inl (cyI, 40, .inl tfa)), (tqb, .inl (cyI, 40, .inl tfb)), (tqc, .inl (cyI, 40, .inl tfc)), (tzh, .inr (1, [.int tzra, .int tzrb, .int tzrc, .int tzrp, .int tzrq, .int tzrr, .int tzrs, .int tzrd]))]) [0, 1, 2, 3, 4] rfl
      have hD9 := hD.sub (ws' := [(th, .inr (0, [.ref tqa, .ref tqb, .ref tqc, .ref tzh, .int tdd, .int tsz])), (tqa, .inl (cyI, 40, .inl tfa)), (tqb, .inl (cyI, 40, .inl tfb)), (tqc, .inl (cyI, 40, .inl tfc)), (tzh, .inr (1, [.int tzra, .int tzrb, .int tzrc, .int tzrp, .int tzrq, .int tzrr, .int tzrs, .int tzrd]))]) [0, 1, 2, 3, 4] (by decide) rfl
      exact W.iret (v := r6) hx hb hr (fun t ht hW => ⟨⟨r6, (), rfl, rfl, by rw [ht]; exact hP9, hD9⟩, hS.F ht⟩) hS.2.2 dX0_opposite_38
    · have h := dm_t hc8 h
      refine lv_iload_n hx hb dX0_opposite_33 rfl (lv_at hl 2 rfl) ?_
      refine lv_goto (tgt := 38) hx hb dX0_opposite_34 (by decide) ?_
      obtain hE0 := dm_i1 h
      subst hE0
      rw [hQQ]
      have hP9 := hP.sub (ws' := [(th, .inr (0, [.ref tqa, .ref tqb, .ref tqc, .ref tzh, .int tdd, .int tsz])), (tqa, .inl (cyI, 40, .inl tfa)), (tqb, .inl (cyI, 40, .inl tfb)), (tqc, .inl (cyI, 40, .inl tfc)), (tzh, .inr (1, [.int tzra, .int tzrb, .int tzrc, .int tzrp, .int tzrq, .int tzrr, .int tzrs, .int tzrd]))]) [0, 1, 2, 3, 4] rfl
      have hD9 := hD.sub (ws' := [(th, .inr (0, [.ref tqa, .ref tqb, .ref tqc, .ref tzh, .int tdd, .int tsz])), (tqa, .inl (cyI, 40, .inl tfa)), (tqb, .inl (cyI, 40, .inl tfb)), (tqc, .inl (cyI, 40, .inl tfc)), (tzh, .inr (1, [.int tzra, .int tzrb, .int tzrc, .int tzrp, .int tzrq, .int tzrr, .int tzrs, .int tzrd]))]) [0, 1, 2, 3, 4] (by decide) rfl
      exact W.iret (v := p0) hx hb hr (fun t ht hW => ⟨⟨p0, (), rfl, rfl, by rw [ht]; exact hP9, hD9⟩, hS.F ht⟩) hS.2.2 dX0_opposite_38
  · have h := dm_t hc3 h
    refine lv_iconst (v := -1) hx hb dX0_opposite_8 (by decide) ?_
    obtain hE0 := dm_i1 h
    subst hE0
    rw [hQQ]
    have hP9 := hP.sub (ws' := [(th, .inr (0, [.ref tqa, .ref tqb, .ref tqc, .ref tzh, .int tdd, .int tsz])), (tqa, .inl (cyI, 40, .inl tfa)), (tqb, .inl (cyI, 40, .inl tfb)), (tqc, .inl (cyI, 40, .inl tfc)), (tzh, .inr (1, [.int tzra, .int tzrb, .int tzrc, .int tzrp, .int tzrq, .int tzrr, .int tzrs, .int tzrd]))]) [0, 1, 2, 3, 4] rfl
    have hD9 := hD.sub (ws' := [(th, .inr (0, [.ref tqa, .ref tqb, .ref tqc, .ref tzh, .int tdd, .int tsz])), (tqa, .inl (cyI, 40, .inl tfa)), (tqb, .inl (cyI, 40, .inl tfb)), (tqc, .inl (cyI, 40, .inl tfc)), (tzh, .inr (1, [.int tzra, .int tzrb, .int tzrc, .int tzrp, .int tzrq, .int tzrr, .int tzrs, .int tzrd]))]) [0, 1, 2, 3, 4] (by decide) rfl
    exact W.iret (v := (-1 : Int32)) hx hb hr (fun t ht hW => ⟨⟨(-1 : Int32), (), rfl, rfl, by rw [ht]; exact hP9, hD9⟩, hS.F ht⟩) hS.2.2 dX0_opposite_9

def f_X0_raised_L24 (tfa : Nat → Int32) (tfb : Nat → Int32) (tdd : Int32) (tsz : Int32) (p0 : Int32) (r2 : Int32)  : Nat → Int32 → Int32 → Int32 → Int32 → Int32 → Int32 → Int32 → Int32 → Int32 → Int32 → Option (Int32 × Int32 × Int32 × Int32 × Int32 × Int32 × Int32 × Int32 × Int32)
  | 0, _, _, _, _, _, _, _, _, _, _ => none
  | n + 1, v4, v5, v6, v7, v8, v9, v10, v11, v12, v13 =>
    if r2 ≤ v4 then
      some (v5, v6, v7, v8, v9, v10, v11, v12, v13)
    else
      dm_b9 (f_X0_product tfa tfb tdd tsz v6 v7 v8 v9 v10 v11 v12 v13 v5 p0) fun r15 w16 w17 w18 w19 w20 w21 w22 w23 =>
      dm_let (v4 + (1 : Int32)) fun x25 =>
      f_X0_raised_L24 tfa tfb tdd tsz p0 r2 n x25 r15 w16 w17 w18 w19 w20 w21 w22 w23
def f_X0_raised (tfa : Nat → Int32) (tfb : Nat → Int32) (tdd : Int32) (tsz : Int32) (tzra : Int32) (tzrb : Int32) (tzrc : Int32) (tzrp : Int32) (tzrq : Int32) (tzrr : Int32) (tzrs : Int32) (tzrd : Int32) (p0 : Int32) (p1 : Int32) : Option (Int32 × Int32 × Int32 × Int32 × Int32 × Int32 × Int32 × Int32 × Int32) :=
  if tsz = 0 then
    some ((-1 : Int32), tzra, tzrb, tzrc, tzrp, tzrq, tzrr, tzrs, tzrd)
  else
    dm_b1 (f_J9_floorMod_7cf53 p1 tsz) fun r2 =>
    f_X0_raised_L24 tfa tfb tdd tsz p0 r2 100000 (0 : Int32) (0 : Int32) tzra tzrb tzrc tzrp tzrq tzrr tzrs tzrd
set_option maxHeartbeats 4000000 in
set_option maxRecDepth 100000 in
theorem c_X0_raised (l : Launch) (dC : Nat → ClassId) (dI : Nat → Nat → Nat) (cyI cyJ cyC : ClassId) (th tqa tqb tqc tzh : Nat) (sz : Nat) (tfa : Nat → Int32) (tfb : Nat → Int32) (tfc : Nat → Int32) (tdd : Int32) (tsz : Int32) (tzra : Int32) (tzrb : Int32) (tzrc : Int32) (tzrp : Int32) (tzrq : Int32) (tzrr : Int32) (tzrs : Int32) (tzrd : Int32) (p0 : Int32) (p1 : Int32) (rv : Int32) (tzra' : Int32) (tzrb' : Int32) (tzrc' : Int32) (tzrp' : Int32) (tzrq' : Int32) (tzrr' : Int32) (tzrs' : Int32) (tzrd' : Int32) (hf : f_X0_raised tfa tfb tdd tsz tzra tzrb tzrc tzrp tzrq tzrr tzrs tzrd p0 p1 = some (rv, tzra', tzrb', tzrc', tzrp', tzrq', tzrr', tzrs', tzrd')) : Met l yX0_raised wsX0_raised { frames := 4, cells := 0, slots := 0, locals := 95 } (va_Pc [.ref th, .int p0, .int p1] (mc_Pre (dC, dI) (mc_tys cyI cyJ cyC) [(th, .inr (0, [.ref tqa, .ref tqb, .ref tqc, .ref tzh, .int tdd, .int tsz])), (tqa, .inl (cyI, 40, .inl tfa)), (tqb, .inl (cyI, 40, .inl tfb)), (tqc, .inl (cyI, 40, .inl tfc)), (tzh, .inr (1, [.int tzra, .int tzrb, .int tzrc, .int tzrp, .int tzrq, .int tzrr, .int tzrs, .int tzrd]))] sz)) (va_Qi (fun r (_ : Unit) => r = rv) (fun _ t => mc_Post (dC, dI) (va_A [(th, .inr (0, [.ref tqa, .ref tqb, .ref tqc, .ref tzh, .int tdd, .int tsz])), (tqa, .inl (cyI, 40, .inl tfa)), (tqb, .inl (cyI, 40, .inl tfb)), (tqc, .inl (cyI, 40, .inl tfc)), (tzh, .inr (1, [.int tzra, .int tzrb, .int tzrc, .int tzrp, .int tzrq, .int tzrr, .int tzrs, .int tzrd]))] sz) [(th, .inr (0, [.ref tqa, .ref tqb, .ref tqc, .ref tzh, .int tdd, .int tsz])), (tqa, .inl (cyI, 40, .inl tfa)), (tqb, .inl (cyI, 40, .inl tfb)), (tqc, .inl (cyI, 40, .inl tfc)), (tzh, .inr (1, [.int tzra', .int tzrb', .int tzrc', .int tzrp', .int tzrq', .int tzrr', .int tzrs', .int tzrd']))] t) (va_A [(th, .inr (0, [.ref tqa, .ref tqb, .ref tqc, .ref tzh, .int tdd, .int tsz])), (tqa, .inl (cyI, 40, .inl tfa)), (tqb, .inl (cyI, 40, .inl tfb)), (tqc, .inl (cyI, 40, .inl tfc)), (tzh, .inr (1, [.int tzra, .int tzrb, .int tzrc, .int tzrp, .int tzrq, .int tzrr, .int tzrs, .int tzrd]))] sz)) 0 0 (va_A [(th, .inr (0, [.ref tqa, .ref tqb, .ref tqc, .ref tzh, .int tdd, .int tsz])), (tqa, .inl (cyI, 40, .inl tfa)), (tqb, .inl (cyI, 40, .inl tfb)), (tqc, .inl (cyI, 40, .inl tfc)), (tzh, .inr (1, [.int tzra, .int tzrb, .int tzrc, .int tzrp, .int tzrq, .int tzrr, .int tzrs, .int tzrd]))] sz) := by
  refine Met.ofW (cc := cX0_raised) (maxL := 6) (ret := (some .int)) (by decide +kernel) rfl ?_
  intro p e s m args below meth c s₁ B hml hv
  obtain ⟨rfl, hsz, hP, hK, hD0, hnw⟩ := hv
  have hx := B.exec
  have hb := B.bytes
  have hr := B.returns
  have hts := atoms_spec (ws := wsX0_raised) B.pre
  have hown : s.vm.findClass RX0 = some m.cls := findClass_of_methodNamed B.named
  have hlocks := B.notSynchronized
  have hinX0 : ∀ w ∈ wsX00, w ∈ wsX0_raised := by decide +kernel
  subst hsz
  have hD := hD0.self (sz := s.heap.size)
  generalize hAe : va_A [(th, .inr (0, [.ref tqa, .ref tqb, .ref tqc, .ref tzh, .int tdd, .int tsz])), (tqa, .inl (cyI, 40, .inl tfa)), (tqb, .inl (cyI, 40, .inl tfb)), (tqc, .inl (cyI, 40, .inl tfc)), (tzh, .inr (1, [.int tzra, .int tzrb, .int tzrc, .int tzrp, .int tzrq, .int tzrr, .int tzrs, .int tzrd]))] s.heap.size = A at hD ⊢
  have hA : ∀ q : Nat, s.heap.size ≤ q → A q := fun q h => by rw [← hAe]; exact Or.inr h
  have hS : va_S A s.heap s.heap [] := va_S.rf
  have hP : va_P (dC, dI) vwCl [(th, .inr (0, [.ref tqa, .ref tqb, .ref tqc, .ref tzh, .int tdd, .int tsz])), (tqa, .inl (cyI, 40, .inl tfa)), (tqb, .inl (cyI, 40, .inl tfb)), (tqc, .inl (cyI, 40, .inl tfc)), (tzh, .inr (1, [.int tzra, .int tzrb, .int tzrc, .int tzrp, .int tzrq, .int tzrr, .int tzrs, .int tzrd]))] s.heap := hP
  have hl := lv_entry ([.ref th, .int p0, .int p1]) (n := 6) (Nat.le_of_ble_eq_true rfl)
  rw [lg_entry_eq]
  generalize (lg_sl ([.ref th, .int p0, .int p1]) ++ List.replicate (6 - (lg_sl ([.ref th, .int p0, .int p1])).length) Slot.unset).toArray = ls at hl ⊢
  have hl : lv_has ls 6 [(0, .ref th), (1, .int p0), (2, .int p1)] := hl
  obtain ⟨QQ, hQQ⟩ : ∃ Q, Q = MQ below (va_Qi (fun r (_ : Unit) => r = rv) (fun _ t => mc_Post (dC, dI) A [(th, .inr (0, [.ref tqa, .ref tqb, .ref tqc, .ref tzh, .int tdd, .int tsz])), (tqa, .inl (cyI, 40, .inl tfa)), (tqb, .inl (cyI, 40, .inl tfb)), (tqc, .inl (cyI, 40, .inl tfc)), (tzh, .inr (1, [.int tzra', .int tzrb', .int tzrc', .int tzrp', .int tzrq', .int tzrr', .int tzrs', .int tzrd']))] t) A) ([Value.ref th, Value.int p0, Value.int p1] : List Value).toArray s 0 0 A := ⟨_, rfl⟩
  rw [← hQQ]
  have h := hf
  unfold f_X0_raised at h
  refine lv_aload_n hx hb dX0_raised_0 rfl (lv_at hl 0 rfl) ?_
  refine va_get (D := (dC, dI)) (ci := 0) (v := .int tsz) (C := RX0) (T := TX0) (N := 6) hx hb hts hinX0 hown hK hP 0 rfl rfl 5 (by decide) (hts (.fieldLink RX0 32 "FormDesk$ClassList" "size" "I") (by decide +kernel)) (fun _ h9 => h9) rfl dX0_raised_1 ?_
  refine lv_if_ne (tgt := 9) hx hb dX0_raised_4 (by decide) (fun hc1 => ?_) (fun hc1 => ?_)
  · have h := dm_f hc1 h
    refine lv_iload_n hx hb dX0_raised_9 rfl (lv_at hl 2 rfl) ?_
    refine lv_aload_n hx hb dX0_raised_10 rfl (lv_at hl 0 rfl) ?_
    refine va_get (D := (dC, dI)) (ci := 0) (v := .int tsz) (C := RX0) (T := TX0) (N := 6) hx hb hts hinX0 hown hK hP 0 rfl rfl 5 (by decide) (hts (.fieldLink RX0 32 "FormDesk$ClassList" "size" "I") (by decide +kernel)) (fun _ h9 => h9) rfl dX0_raised_11 ?_
    obtain ⟨r2, hk3, h⟩ := dm_b1s h
    refine mc_i (wr := [(th, .inr (0, [.ref tqa, .ref tqb, .ref tqc, .ref tzh, .int tdd, .int tsz])), (tqa, .inl (cyI, 40, .inl tfa)), (tqb, .inl (cyI, 40, .inl tfb)), (tqc, .inl (cyI, 40, .inl tfc)), (tzh, .inr (1, [.int tzra, .int tzrb, .int tzrc, .int tzrp, .int tzrq, .int tzrr, .int tzrs, .int tzrd]))]) (va_runS (As := [.int p1, .int tsz]) (rest := []) ⟨hx, hb, hml, hown, hts⟩ (c_J9_floorMod_7cf53 l dC dI cyI cyJ cyC s.heap.size p1 tsz r2 hk3) (va_cwS 2 hts gX0_raised_J9_floorMod_7cf53 rfl rfl rfl (by decide +kernel) ⟨(Nat.le_of_ble_eq_true rfl), (Nat.le_of_ble_eq_true rfl)⟩) (mc_preS hK (hP.sub (ws' := []) [] rfl) (hD.sub (ws' := []) [] (by decide) rfl) hnw) rfl rfl hl.1 rfl (lv_room (Nat.le_of_ble_eq_true rfl)) dX0_raised_14 ⟨Nat.zero_le _, Nat.zero_le _⟩) hP hD hS hA [] [0, 1, 2, 3, 4] rfl rfl rfl (by decide) (fun H locs hP hD hS => ?_)
    have hP : va_P (dC, dI) vwCl [(th, .inr (0, [.ref tqa, .ref tqb, .ref tqc, .ref tzh, .int tdd, .int tsz])), (tqa, .inl (cyI, 40, .inl tfa)), (tqb, .inl (cyI, 40, .inl tfb)), (tqc, .inl (cyI, 40, .inl tfc)), (tzh, .inr (1, [.int tzra, .int tzrb, .int tzrc, .int tzrp, .int tzrq, .int tzrr, .int tzrs, .int tzrd]))] H := hP
    have hD : va_D A [(th, .inr (0, [.ref tqa, .ref tqb, .ref tqc, .ref tzh, .int tdd, .int tsz])), (tqa, .inl (cyI, 40, .inl tfa)), (tqb, .inl (cyI, 40, .inl tfb)), (tqc, .inl (cyI, 40, .inl tfc)), (tzh, .inr (1, [.int tzra, .int tzrb, .int tzrc, .int tzrp, .int tzrq, .int tzrr, .int tzrs, .int tzrd]))] := hD
    refine lv_istore_n (lv' := [(3, .int r2), (0, .ref th), (1, .int p0), (2, .int p1)]) hx hb dX0_raised_17 rfl hl (by decide) rfl (fun ls hl => ?_)
    refine lv_iconst (v := 0) hx hb dX0_raised_18 (by decide) ?_
    refine lv_istore (lv' := [(4, .int (0 : Int32)), (3, .int r2), (0, .ref th), (1, .int p0), (2, .int p1)]) hx hb dX0_raised_19 hl (by decide) rfl (fun ls hl => ?_)
    refine lv_iconst (v := 0) hx hb dX0_raised_21 (by decide) ?_
    refine lv_istore (lv' := [(5, .int (0 : Int32)), (4, .int (0 : Int32)), (3, .int r2), (0, .ref th), (1, .int p0), (2, .int p1)]) hx hb dX0_raised_22 hl (by decide) rfl (fun ls hl => ?_)
    have L24 : ∀ (n24 : Nat) (v4 : Int32) (v5 : Int32) (v6 : Int32) (v7 : Int32) (v8 : Int32) (v9 : Int32) (v10 : Int32) (v11 : Int32) (v12 : Int32) (v13 : Int32) (H : Heap) (locs : List Loc) (ls : Array Slot), f_X0_raised_L24 tfa tfb tdd tsz p0 r2 n24 v4 v5 v6 v7 v8 v9 v10 v11 v12 v13 = some (rv, tzra', tzrb', tzrc', tzrp', tzrq', tzrr', tzrs', tzrd') → va_P (dC, dI) vwCl [(th, .inr (0, [.ref tqa, .ref tqb, .ref tqc, .ref tzh, .int tdd, .int tsz])), (tqa, .inl (cyI, 40, .inl tfa)), (tqb, .inl (cyI, 40, .inl tfb)), (tqc, .inl (cyI, 40, .inl tfc)), (tzh, .inr (1, [.int v6, .int v7, .int v8, .int v9, .int v10, .int v11, .int v12, .int v13]))] H → va_D A [(th, .inr (0, [.ref tqa, .ref tqb, .ref tqc, .ref tzh, .int tdd, .int tsz])), (tqa, .inl (cyI, 40, .inl tfa)), (tqb, .inl (cyI, 40, .inl tfb)), (tqc, .inl (cyI, 40, .inl tfc)), (tzh, .inr (1, [.int v6, .int v7, .int v8, .int v9, .int v10, .int v11, .int v12, .int v13]))] → va_S A s.heap H locs → lv_has ls 6 [(5, .int v4), (4, .int v5), (3, .int r2), (0, .ref th), (1, .int p0), (2, .int p1)] → W p l e (headSpec wsX0_raised { frames := 4, cells := 0, slots := 0, locals := 95 }).room s m ([Value.ref th, Value.int p0, Value.int p1] : List Value).toArray below meth c H locs 0 0 QQ (F0 m 24 ls []) := by
      intro n24
      induction n24 with
      | zero =>
        intro v4 v5 v6 v7 v8 v9 v10 v11 v12 v13 H locs ls h
        exact nomatch (show (none : Option (Int32 × Int32 × Int32 × Int32 × Int32 × Int32 × Int32 × Int32 × Int32)) = some _ from h)
      | succ n24 ih24 =>
        intro v4 v5 v6 v7 v8 v9 v10 v11 v12 v13 H locs ls h hP hD hS hl
        rw [f_X0_raised_L24] at h
        refine lv_iload hx hb dX0_raised_24 (lv_at hl 0 rfl) ?_
        refine lv_iload_n hx hb dX0_raised_26 rfl (lv_at hl 2 rfl) ?_
        refine lv_icmp_ge (tgt := 45) hx hb dX0_raised_27 (by decide) (fun hc14 => ?_) (fun hc14 => ?_)
        · have h := dm_t hc14 h
          refine lv_iload hx hb dX0_raised_45 (lv_at hl 1 rfl) ?_
          obtain ⟨hE0, hE1, hE2, hE3, hE4, hE5, hE6, hE7, hE8⟩ := dm_i9 h
          subst hE0; subst hE1; subst hE2; subst hE3; subst hE4; subst hE5; subst hE6; subst hE7; subst hE8
          rw [hQQ]
          have hP9 := hP.sub (ws' := [(th, .inr (0, [.ref tqa, .ref tqb, .ref tqc, .ref tzh, .int tdd, .int tsz])), (tqa, .inl (cyI, 40, .inl tfa)), (tqb, .inl (cyI, 40, .inl tfb)), (tqc, .inl (cyI, 40, .inl tfc)), (tzh, .inr (1, [.int v6, .int v7, .int v8, .int v9, .int v10, .int v11, .int v12, .int v13]))]) [0, 1, 2, 3, 4] rfl
          have hD9 := hD.sub (ws' := [(th, .inr (0, [.ref tqa, .ref tqb, .ref tqc, .ref tzh, .int tdd, .int tsz])), (tqa, .inl (cyI, 40, .inl tfa)), (tqb, .inl (cyI, 40, .inl tfb)), (tqc, .inl (cyI, 40, .inl tfc)), (tzh, .inr (1, [.int v6, .int v7, .int v8, .int v9, .int v10, .int v11, .int v12, .int v13]))]) [0, 1, 2, 3, 4] (by decide) rfl
          exact W.iret (v := v5) hx hb hr (fun t ht hW => ⟨⟨v5, (), rfl, rfl, by rw [ht]; exact hP9, hD9⟩, hS.F ht⟩) hS.2.2 dX0_raised_47
        · have h := dm_f hc14 h
          refine lv_aload_n hx hb dX0_raised_30 rfl (lv_at hl 3 rfl) ?_
          refine lv_iload hx hb dX0_raised_31 (lv_at hl 1 rfl) ?_
          refine lv_iload_n hx hb dX0_raised_33 rfl (lv_at hl 4 rfl) ?_
          obtain ⟨r15, w16, w17, w18, w19, w20, w21, w22, w23, hk24, h⟩ := dm_b9s h
          refine mc_i (wr := []) (va_runV (As := [.int v5, .int p0]) (rest := []) ⟨hx, hb, hml, hown, hts⟩ (c_X0_product l dC dI cyI cyJ cyC th tqa tqb tqc tzh H.size tfa tfb tfc tdd tsz v6 v7 v8 v9 v10 v11 v12 v13 v5 p0 r15 w16 w17 w18 w19 w20 w21 w22 w23 hk24) (cwV 2 hts gX0_raised_X0_product rfl rfl rfl (by decide +kernel) ⟨(Nat.le_of_ble_eq_true rfl), (Nat.le_of_ble_eq_true rfl)⟩) (mc_preV hK (hP.sub (ws' := [(th, .inr (0, [.ref tqa, .ref tqb, .ref tqc, .ref tzh, .int tdd, .int tsz])), (tqa, .inl (cyI, 40, .inl tfa)), (tqb, .inl (cyI, 40, .inl tfb)), (tqc, .inl (cyI, 40, .inl tfc)), (tzh, .inr (1, [.int v6, .int v7, .int v8, .int v9, .int v10, .int v11, .int v12, .int v13]))]) [0, 1, 2, 3, 4] rfl) (hD.sub (ws' := [(th, .inr (0, [.ref tqa, .ref tqb, .ref tqc, .ref tzh, .int tdd, .int tsz])), (tqa, .inl (cyI, 40, .inl tfa)), (tqb, .inl (cyI, 40, .inl tfb)), (tqc, .inl (cyI, 40, .inl tfc)), (tzh, .inr (1, [.int v6, .int v7, .int v8, .int v9, .int v10, .int v11, .int v12, .int v13]))]) [0, 1, 2, 3, 4] (by decide) rfl) hnw rfl rfl) rfl rfl hl.1 rfl (lv_room (Nat.le_of_ble_eq_true rfl)) dX0_raised_34 ⟨Nat.zero_le _, Nat.zero_le _⟩) hP hD hS hA [0, 1, 2, 3, 4] [] rfl rfl rfl (by decide) (fun H locs hP hD hS => ?_)
          have hP : va_P (dC, dI) vwCl [(th, .inr (0, [.ref tqa, .ref tqb, .ref tqc, .ref tzh, .int tdd, .int tsz])), (tqa, .inl (cyI, 40, .inl tfa)), (tqb, .inl (cyI, 40, .inl tfb)), (tqc, .inl (cyI, 40, .inl tfc)), (tzh, .inr (1, [.int w16, .int w17, .int w18, .int w19, .int w20, .int w21, .int w22, .int w23]))] H := hP
          have hD : va_D A [(th, .inr (0, [.ref tqa, .ref tqb, .ref tqc, .ref tzh, .int tdd, .int tsz])), (tqa, .inl (cyI, 40, .inl tfa)), (tqb, .inl (cyI, 40, .inl tfb)), (tqc, .inl (cyI, 40, .inl tfc)), (tzh, .inr (1, [.int w16, .int w17, .int w18, .int w19, .int w20, .int w21, .int w22, .int w23]))] := hD
          refine lv_istore (lv' := [(4, .int r15), (5, .int v4), (3, .int r2), (0, .ref th), (1, .int p0), (2, .int p1)]) hx hb dX0_raised_37 hl (by decide) rfl (fun ls hl => ?_)
          obtain ⟨x25, ex25⟩ : ∃ y : Int32, y = (v4 + (1 : Int32)) := ⟨_, rfl⟩
          have h := dm_lu ex25 h
          refine lv_iinc (v := x25) (lv' := [(5, .int x25), (4, .int r15), (3, .int r2), (0, .ref th), (1, .int p0), (2, .int p1)]) hx hb dX0_raised_39 hl (k := 1) rfl (by rw [ex25]; rfl) (by decide) rfl (fun ls hl => ?_)
          refine lv_goto (tgt := 24) hx hb dX0_raised_42 (by decide) ?_
          exact ih24 x25 r15 w16 w17 w18 w19 w20 w21 w22 w23 H _ ls h (hP.sub [0, 1, 2, 3, 4] rfl) (hD.sub [0, 1, 2, 3, 4] (by decide) rfl) hS (lv_sub hl [0, 1, 2, 3, 4, 5] rfl)
    exact L24 100000 (0 : Int32) (0 : Int32) tzra tzrb tzrc tzrp tzrq tzrr tzrs tzrd H _ ls h hP hD hS hl
  · have h := dm_t hc1 h
    refine lv_iconst (v := -1) hx hb dX0_raised_7 (by decide) ?_
    obtain ⟨hE0, hE1, hE2, hE3, hE4, hE5, hE6, hE7, hE8⟩ := dm_i9 h
    subst hE0; subst hE1; subst hE2; subst hE3; subst hE4; subst hE5; subst hE6; subst hE7; subst hE8
    rw [hQQ]
    have hP9 := hP.sub (ws' := [(th, .inr (0, [.ref tqa, .ref tqb, .ref tqc, .ref tzh, .int tdd, .int tsz])), (tqa, .inl (cyI, 40, .inl tfa)), (tqb, .inl (cyI, 40, .inl tfb)), (tqc, .inl (cyI, 40, .inl tfc)), (tzh, .inr (1, [.int tzra, .int tzrb, .int tzrc, .int tzrp, .int tzrq, .int tzrr, .int tzrs, .int tzrd]))]) [0, 1, 2, 3, 4] rfl
    have hD9 := hD.sub (ws' := [(th, .inr (0, [.ref tqa, .ref tqb, .ref tqc, .ref tzh, .int tdd, .int tsz])), (tqa, .inl (cyI, 40, .inl tfa)), (tqb, .inl (cyI, 40, .inl tfb)), (tqc, .inl (cyI, 40, .inl tfc)), (tzh, .inr (1, [.int tzra, .int tzrb, .int tzrc, .int tzrp, .int tzrq, .int tzrr, .int tzrs, .int tzrd]))]) [0, 1, 2, 3, 4] (by decide) rfl
    exact W.iret (v := (-1 : Int32)) hx hb hr (fun t ht hW => ⟨⟨(-1 : Int32), (), rfl, rfl, by rw [ht]; exact hP9, hD9⟩, hS.F ht⟩) hS.2.2 dX0_raised_8

def f_X0_orderOf_L4 (tfa : Nat → Int32) (tfb : Nat → Int32) (tdd : Int32) (tsz : Int32) (p0 : Int32)  : Nat → Int32 → Int32 → Int32 → Int32 → Int32 → Int32 → Int32 → Int32 → Int32 → Int32 → Option (Int32 × Int32 × Int32 × Int32 × Int32 × Int32 × Int32 × Int32 × Int32)
  | 0, _, _, _, _, _, _, _, _, _, _ => none
  | n + 1, v1, v2, v3, v4, v5, v6, v7, v8, v9, v10 =>
    if v1 = 0 then
      some (v2, v3, v4, v5, v6, v7, v8, v9, v10)
    else
      if tsz ≤ v2 then
        some (v2, v3, v4, v5, v6, v7, v8, v9, v10)
      else
        dm_b9 (f_X0_product tfa tfb tdd tsz v3 v4 v5 v6 v7 v8 v9 v10 v1 p0) fun r13 w14 w15 w16 w17 w18 w19 w20 w21 =>
        dm_let (v2 + (1 : Int32)) fun x23 =>
        f_X0_orderOf_L4 tfa tfb tdd tsz p0 n r13 x23 w14 w15 w16 w17 w18 w19 w20 w21
def f_X0_orderOf (tfa : Nat → Int32) (tfb : Nat → Int32) (tdd : Int32) (tsz : Int32) (tzra : Int32) (tzrb : Int32) (tzrc : Int32) (tzrp : Int32) (tzrq : Int32) (tzrr : Int32) (tzrs : Int32) (tzrd : Int32) (p0 : Int32) : Option (Int32 × Int32 × Int32 × Int32 × Int32 × Int32 × Int32 × Int32 × Int32) :=
  f_X0_orderOf_L4 tfa tfb tdd tsz p0 100000 p0 (1 : Int32) tzra tzrb tzrc tzrp tzrq tzrr tzrs tzrd
set_option maxHeartbeats 4000000 in
set_option maxRecDepth 100000 in
theorem c_X0_orderOf (l : Launch) (dC : Nat → ClassId) (dI : Nat → Nat → Nat) (cyI cyJ cyC : ClassId) (th tqa tqb tqc tzh : Nat) (sz : Nat) (tfa : Nat → Int32) (tfb : Nat → Int32) (tfc : Nat → Int32) (tdd : Int32) (tsz : Int32) (tzra : Int32) (tzrb : Int32) (tzrc : Int32) (tzrp : Int32) (tzrq : Int32) (tzrr : Int32) (tzrs : Int32) (tzrd : Int32) (p0 : Int32) (rv : Int32) (tzra' : Int32) (tzrb' : Int32) (tzrc' : Int32) (tzrp' : Int32) (tzrq' : Int32) (tzrr' : Int32) (tzrs' : Int32) (tzrd' : Int32) (hf : f_X0_orderOf tfa tfb tdd tsz tzra tzrb tzrc tzrp tzrq tzrr tzrs tzrd p0 = some (rv, tzra', tzrb', tzrc', tzrp', tzrq', tzrr', tzrs', tzrd')) : Met l yX0_orderOf wsX0_orderOf { frames := 4, cells := 0, slots := 0, locals := 95 } (va_Pc [.ref th, .int p0] (mc_Pre (dC, dI) (mc_tys cyI cyJ cyC) [(th, .inr (0, [.ref tqa, .ref tqb, .ref tqc, .ref tzh, .int tdd, .int tsz])), (tqa, .inl (cyI, 40, .inl tfa)), (tqb, .inl (cyI, 40, .inl tfb)), (tqc, .inl (cyI, 40, .inl tfc)), (tzh, .inr (1, [.int tzra, .int tzrb, .int tzrc, .int tzrp, .int tzrq, .int tzrr, .int tzrs, .int tzrd]))] sz)) (va_Qi (fun r (_ : Unit) => r = rv) (fun _ t => mc_Post (dC, dI) (va_A [(th, .inr (0, [.ref tqa, .ref tqb, .ref tqc, .ref tzh, .int tdd, .int tsz])), (tqa, .inl (cyI, 40, .inl tfa)), (tqb, .inl (cyI, 40, .inl tfb)), (tqc, .inl (cyI, 40, .inl tfc)), (tzh, .inr (1, [.int tzra, .int tzrb, .int tzrc, .int tzrp, .int tzrq, .int tzrr, .int tzrs, .int tzrd]))] sz) [(th, .inr (0, [.ref tqa, .ref tqb, .ref tqc, .ref tzh, .int tdd, .int tsz])), (tqa, .inl (cyI, 40, .inl tfa)), (tqb, .inl (cyI, 40, .inl tfb)), (tqc, .inl (cyI, 40, .inl tfc)), (tzh, .inr (1, [.int tzra', .int tzrb', .int tzrc', .int tzrp', .int tzrq', .int tzrr', .int tzrs', .int tzrd']))] t) (va_A [(th, .inr (0, [.ref tqa, .ref tqb, .ref tqc, .ref tzh, .int tdd, .int tsz])), (tqa, .inl (cyI, 40, .inl tfa)), (tqb, .inl (cyI, 40, .inl tfb)), (tqc, .inl (cyI, 40, .inl tfc)), (tzh, .inr (1, [.int tzra, .int tzrb, .int tzrc, .int tzrp, .int tzrq, .int tzrr, .int tzrs, .int tzrd]))] sz)) 0 0 (va_A [(th, .inr (0, [.ref tqa, .ref tqb, .ref tqc, .ref tzh, .int tdd, .int tsz])), (tqa, .inl (cyI, 40, .inl tfa)), (tqb, .inl (cyI, 40, .inl tfb)), (tqc, .inl (cyI, 40, .inl tfc)), (tzh, .inr (1, [.int tzra, .int tzrb, .int tzrc, .int tzrp, .int tzrq, .int tzrr, .int tzrs, .int tzrd]))] sz) := by
  refine Met.ofW (cc := cX0_orderOf) (maxL := 4) (ret := (some .int)) (by decide +kernel) rfl ?_
  intro p e s m args below meth c s₁ B hml hv
  obtain ⟨rfl, hsz, hP, hK, hD0, hnw⟩ := hv
  have hx := B.exec
  have hb := B.bytes
  have hr := B.returns
  have hts := atoms_spec (ws := wsX0_orderOf) B.pre
  have hown : s.vm.findClass RX0 = some m.cls := findClass_of_methodNamed B.named
  have hlocks := B.notSynchronized
  have hinX0 : ∀ w ∈ wsX00, w ∈ wsX0_orderOf := by decide +kernel
  subst hsz
  have hD := hD0.self (sz := s.heap.size)
  generalize hAe : va_A [(th, .inr (0, [.ref tqa, .ref tqb, .ref tqc, .ref tzh, .int tdd, .int tsz])), (tqa, .inl (cyI, 40, .inl tfa)), (tqb, .inl (cyI, 40, .inl tfb)), (tqc, .inl (cyI, 40, .inl tfc)), (tzh, .inr (1, [.int tzra, .int tzrb, .int tzrc, .int tzrp, .int tzrq, .int tzrr, .int tzrs, .int tzrd]))] s.heap.size = A at hD ⊢
  have hA : ∀ q : Nat, s.heap.size ≤ q → A q := fun q h => by rw [← hAe]; exact Or.inr h
  have hS : va_S A s.heap s.heap [] := va_S.rf
  have hP : va_P (dC, dI) vwCl [(th, .inr (0, [.ref tqa, .ref tqb, .ref tqc, .ref tzh, .int tdd, .int tsz])), (tqa, .inl (cyI, 40, .inl tfa)), (tqb, .inl (cyI, 40, .inl tfb)), (tqc, .inl (cyI, 40, .inl tfc)), (tzh, .inr (1, [.int tzra, .int tzrb, .int tzrc, .int tzrp, .int tzrq, .int tzrr, .int tzrs, .int tzrd]))] s.heap := hP
  have hl := lv_entry ([.ref th, .int p0]) (n := 4) (Nat.le_of_ble_eq_true rfl)
  rw [lg_entry_eq]
  generalize (lg_sl ([.ref th, .int p0]) ++ List.replicate (4 - (lg_sl ([.ref th, .int p0])).length) Slot.unset).toArray = ls at hl ⊢
  have hl : lv_has ls 4 [(0, .ref th), (1, .int p0)] := hl
  obtain ⟨QQ, hQQ⟩ : ∃ Q, Q = MQ below (va_Qi (fun r (_ : Unit) => r = rv) (fun _ t => mc_Post (dC, dI) A [(th, .inr (0, [.ref tqa, .ref tqb, .ref tqc, .ref tzh, .int tdd, .int tsz])), (tqa, .inl (cyI, 40, .inl tfa)), (tqb, .inl (cyI, 40, .inl tfb)), (tqc, .inl (cyI, 40, .inl tfc)), (tzh, .inr (1, [.int tzra', .int tzrb', .int tzrc', .int tzrp', .int tzrq', .int tzrr', .int tzrs', .int tzrd']))] t) A) ([Value.ref th, Value.int p0] : List Value).toArray s 0 0 A := ⟨_, rfl⟩
  rw [← hQQ]
  have h := hf
  unfold f_X0_orderOf at h
  refine lv_iconst (v := 1) hx hb dX0_orderOf_0 (by decide) ?_
  refine lv_istore_n (lv' := [(2, .int (1 : Int32)), (0, .ref th), (1, .int p0)]) hx hb dX0_orderOf_1 rfl hl (by decide) rfl (fun ls hl => ?_)
  refine lv_iload_n hx hb dX0_orderOf_2 rfl (lv_at hl 2 rfl) ?_
  refine lv_istore_n (lv' := [(3, .int p0), (2, .int (1 : Int32)), (0, .ref th), (1, .int p0)]) hx hb dX0_orderOf_3 rfl hl (by decide) rfl (fun ls hl => ?_)
  have L4 : ∀ (n4 : Nat) (v1 : Int32) (v2 : Int32) (v3 : Int32) (v4 : Int32) (v5 : Int32) (v6 : Int32) (v7 : Int32) (v8 : Int32) (v9 : Int32) (v10 : Int32) (H : Heap) (locs : List Loc) (ls : Array Slot), f_X0_orderOf_L4 tfa tfb tdd tsz p0 n4 v1 v2 v3 v4 v5 v6 v7 v8 v9 v10 = some (rv, tzra', tzrb', tzrc', tzrp', tzrq', tzrr', tzrs', tzrd') → va_P (dC, dI) vwCl [(th, .inr (0, [.ref tqa, .ref tqb, .ref tqc, .ref tzh, .int tdd, .int tsz])), (tqa, .inl (cyI, 40, .inl tfa)), (tqb, .inl (cyI, 40, .inl tfb)), (tqc, .inl (cyI, 40, .inl tfc)), (tzh, .inr (1, [.int v3, .int v4, .int v5, .int v6, .int v7, .int v8, .int v9, .int v10]))] H → va_D A [(th, .inr (0, [.ref tqa, .ref tqb, .ref tqc, .ref tzh, .int tdd, .int tsz])), (tqa, .inl (cyI, 40, .inl tfa)), (tqb, .inl (cyI, 40, .inl tfb)), (tqc, .inl (cyI, 40, .inl tfc)), (tzh, .inr (1, [.int v3, .int v4, .int v5, .int v6, .int v7, .int v8, .int v9, .int v10]))] → va_S A s.heap H locs → lv_has ls 4 [(3, .int v1), (2, .int v2), (0, .ref th), (1, .int p0)] → W p l e (headSpec wsX0_orderOf { frames := 4, cells := 0, slots := 0, locals := 95 }).room s m ([Value.ref th, Value.int p0] : List Value).toArray below meth c H locs 0 0 QQ (F0 m 4 ls []) := by
    intro n4
    induction n4 with
    | zero =>
      intro v1 v2 v3 v4 v5 v6 v7 v8 v9 v10 H locs ls h
      exact nomatch (show (none : Option (Int32 × Int32 × Int32 × Int32 × Int32 × Int32 × Int32 × Int32 × Int32)) = some _ from h)
    | succ n4 ih4 =>
      intro v1 v2 v3 v4 v5 v6 v7 v8 v9 v10 H locs ls h hP hD hS hl
      rw [f_X0_orderOf_L4] at h
      refine lv_iload_n hx hb dX0_orderOf_4 rfl (lv_at hl 0 rfl) ?_
      refine lv_if_eq (tgt := 29) hx hb dX0_orderOf_5 (by decide) (fun hc11 => ?_) (fun hc11 => ?_)
      · have h := dm_t hc11 h
        refine lv_iload_n hx hb dX0_orderOf_29 rfl (lv_at hl 1 rfl) ?_
        obtain ⟨hE0, hE1, hE2, hE3, hE4, hE5, hE6, hE7, hE8⟩ := dm_i9 h
        subst hE0; subst hE1; subst hE2; subst hE3; subst hE4; subst hE5; subst hE6; subst hE7; subst hE8
        rw [hQQ]
        have hP9 := hP.sub (ws' := [(th, .inr (0, [.ref tqa, .ref tqb, .ref tqc, .ref tzh, .int tdd, .int tsz])), (tqa, .inl (cyI, 40, .inl tfa)), (tqb, .inl (cyI, 40, .inl tfb)), (tqc, .inl (cyI, 40, .inl tfc)), (tzh, .inr (1, [.int v3, .int v4, .int v5, .int v6, .int v7, .int v8, .int v9, .int v10]))]) [0, 1, 2, 3, 4] rfl
        have hD9 := hD.sub (ws' := [(th, .inr (0, [.ref tqa, .ref tqb, .ref tqc, .ref tzh, .int tdd, .int tsz])), (tqa, .inl (cyI, 40, .inl tfa)), (tqb, .inl (cyI, 40, .inl tfb)), (tqc, .inl (cyI, 40, .inl tfc)), (tzh, .inr (1, [.int v3, .int v4, .int v5, .int v6, .int v7, .int v8, .int v9, .int v10]))]) [0, 1, 2, 3, 4] (by decide) rfl
        exact W.iret (v := v2) hx hb hr (fun t ht hW => ⟨⟨v2, (), rfl, rfl, by rw [ht]; exact hP9, hD9⟩, hS.F ht⟩) hS.2.2 dX0_orderOf_30
      · have h := dm_f hc11 h
        refine lv_iload_n hx hb dX0_orderOf_8 rfl (lv_at hl 1 rfl) ?_
        refine lv_aload_n hx hb dX0_orderOf_9 rfl (lv_at hl 2 rfl) ?_
        refine va_get (D := (dC, dI)) (ci := 0) (v := .int tsz) (C := RX0) (T := TX0) (N := 6) hx hb hts hinX0 hown hK hP 0 rfl rfl 5 (by decide) (hts (.fieldLink RX0 32 "FormDesk$ClassList" "size" "I") (by decide +kernel)) (fun _ h9 => h9) rfl dX0_orderOf_10 ?_
        refine lv_icmp_ge (tgt := 29) hx hb dX0_orderOf_13 (by decide) (fun hc12 => ?_) (fun hc12 => ?_)
        · have h := dm_t hc12 h
          refine lv_iload_n hx hb dX0_orderOf_29 rfl (lv_at hl 1 rfl) ?_
          obtain ⟨hE0, hE1, hE2, hE3, hE4, hE5, hE6, hE7, hE8⟩ := dm_i9 h
          subst hE0; subst hE1; subst hE2; subst hE3; subst hE4; subst hE5; subst hE6; subst hE7; subst hE8
          rw [hQQ]
          have hP9 := hP.sub (ws' := [(th, .inr (0, [.ref tqa, .ref tqb, .ref tqc, .ref tzh, .int tdd, .int tsz])), (tqa, .inl (cyI, 40, .inl tfa)), (tqb, .inl (cyI, 40, .inl tfb)), (tqc, .inl (cyI, 40, .inl tfc)), (tzh, .inr (1, [.int v3, .int v4, .int v5, .int v6, .int v7, .int v8, .int v9, .int v10]))]) [0, 1, 2, 3, 4] rfl
          have hD9 := hD.sub (ws' := [(th, .inr (0, [.ref tqa, .ref tqb, .ref tqc, .ref tzh, .int tdd, .int tsz])), (tqa, .inl (cyI, 40, .inl tfa)), (tqb, .inl (cyI, 40, .inl tfb)), (tqc, .inl (cyI, 40, .inl tfc)), (tzh, .inr (1, [.int v3, .int v4, .int v5, .int v6, .int v7, .int v8, .int v9, .int v10]))]) [0, 1, 2, 3, 4] (by decide) rfl
          exact W.iret (v := v2) hx hb hr (fun t ht hW => ⟨⟨v2, (), rfl, rfl, by rw [ht]; exact hP9, hD9⟩, hS.F ht⟩) hS.2.2 dX0_orderOf_30
        · have h := dm_f hc12 h
          refine lv_aload_n hx hb dX0_orderOf_16 rfl (lv_at hl 2 rfl) ?_
          refine lv_iload_n hx hb dX0_orderOf_17 rfl (lv_at hl 0 rfl) ?_
          refine lv_iload_n hx hb dX0_orderOf_18 rfl (lv_at hl 3 rfl) ?_
          obtain ⟨r13, w14, w15, w16, w17, w18, w19, w20, w21, hk22, h⟩ := dm_b9s h
          refine mc_i (wr := []) (va_runV (As := [.int v1, .int p0]) (rest := []) ⟨hx, hb, hml, hown, hts⟩ (c_X0_product l dC dI cyI cyJ cyC th tqa tqb tqc tzh H.size tfa tfb tfc tdd tsz v3 v4 v5 v6 v7 v8 v9 v10 v1 p0 r13 w14 w15 w16 w17 w18 w19 w20 w21 hk22) (cwV 2 hts gX0_orderOf_X0_product rfl rfl rfl (by decide +kernel) ⟨(Nat.le_of_ble_eq_true rfl), (Nat.le_of_ble_eq_true rfl)⟩) (mc_preV hK (hP.sub (ws' := [(th, .inr (0, [.ref tqa, .ref tqb, .ref tqc, .ref tzh, .int tdd, .int tsz])), (tqa, .inl (cyI, 40, .inl tfa)), (tqb, .inl (cyI, 40, .inl tfb)), (tqc, .inl (cyI, 40, .inl tfc)), (tzh, .inr (1, [.int v3, .int v4, .int v5, .int v6, .int v7, .int v8, .int v9, .int v10]))]) [0, 1, 2, 3, 4] rfl) (hD.sub (ws' := [(th, .inr (0, [.ref tqa, .ref tqb, .ref tqc, .ref tzh, .int tdd, .int tsz])), (tqa, .inl (cyI, 40, .inl tfa)), (tqb, .inl (cyI, 40, .inl tfb)), (tqc, .inl (cyI, 40, .inl tfc)), (tzh, .inr (1, [.int v3, .int v4, .int v5, .int v6, .int v7, .int v8, .int v9, .int v10]))]) [0, 1, 2, 3, 4] (by decide) rfl) hnw rfl rfl) rfl rfl hl.1 rfl (lv_room (Nat.le_of_ble_eq_true rfl)) dX0_orderOf_19 ⟨Nat.zero_le _, Nat.zero_le _⟩) hP hD hS hA [0, 1, 2, 3, 4] [] rfl rfl rfl (by decide) (fun H locs hP hD hS => ?_)
          have hP : va_P (dC, dI) vwCl [(th, .inr (0, [.ref tqa, .ref tqb, .ref tqc, .ref tzh, .int tdd, .int tsz])), (tqa, .inl (cyI, 40, .inl tfa)), (tqb, .inl (cyI, 40, .inl tfb)), (tqc, .inl (cyI, 40, .inl tfc)), (tzh, .inr (1, [.int w14, .int w15, .int w16, .int w17, .int w18, .int w19, .int w20, .int w21]))] H := hP
          have hD : va_D A [(th, .inr (0, [.ref tqa, .ref tqb, .ref tqc, .ref tzh, .int tdd, .int tsz])), (tqa, .inl (cyI, 40, .inl tfa)), (tqb, .inl (cyI, 40, .inl tfb)), (tqc, .inl (cyI, 40, .inl tfc)), (tzh, .inr (1, [.int w14, .int w15, .int w16, .int w17, .int w18, .int w19, .int w20, .int w21]))] := hD
          refine lv_istore_n (lv' := [(3, .int r13), (2, .int v2), (0, .ref th), (1, .int p0)]) hx hb dX0_orderOf_22 rfl hl (by decide) rfl (fun ls hl => ?_)
          obtain ⟨x23, ex23⟩ : ∃ y : Int32, y = (v2 + (1 : Int32)) := ⟨_, rfl⟩
          have h := dm_lu ex23 h
          refine lv_iinc (v := x23) (lv' := [(2, .int x23), (3, .int r13), (0, .ref th), (1, .int p0)]) hx hb dX0_orderOf_23 hl (k := 1) rfl (by rw [ex23]; rfl) (by decide) rfl (fun ls hl => ?_)
          refine lv_goto (tgt := 4) hx hb dX0_orderOf_26 (by decide) ?_
          exact ih4 r13 x23 w14 w15 w16 w17 w18 w19 w20 w21 H _ ls h (hP.sub [0, 1, 2, 3, 4] rfl) (hD.sub [0, 1, 2, 3, 4] (by decide) rfl) hS (lv_sub hl [1, 0, 2, 3] rfl)
  exact L4 100000 p0 (1 : Int32) tzra tzrb tzrc tzrp tzrq tzrr tzrs tzrd s.heap _ ls h hP hD hS hl

def f_X0_genusOf_L4 (tfa : Nat → Int32) (tfb : Nat → Int32) (tdd : Int32) (tsz : Int32) (p0 : Int32)  : Nat → Int32 → Int32 → Int32 → Int32 → Int32 → Int32 → Int32 → Int32 → Int32 → Int32 → Option (Int32 × Int32 × Int32 × Int32 × Int32 × Int32 × Int32 × Int32 × Int32)
  | 0, _, _, _, _, _, _, _, _, _, _ => none
  | n + 1, v1, v2, v3, v4, v5, v6, v7, v8, v9, v10 =>
    if tsz ≤ v1 then
      some (v2, v3, v4, v5, v6, v7, v8, v9, v10)
    else
      dm_b9 (f_X0_product tfa tfb tdd tsz v3 v4 v5 v6 v7 v8 v9 v10 v1 v1) fun r12 w13 w14 w15 w16 w17 w18 w19 w20 =>
      dm_b9 (f_X0_product tfa tfb tdd tsz w13 w14 w15 w16 w17 w18 w19 w20 p0 r12) fun r22 w23 w24 w25 w26 w27 w28 w29 w30 =>
      dm_let (if r22 < v2 then r22 else v2) fun x32 =>
      dm_let (v1 + (1 : Int32)) fun x33 =>
      f_X0_genusOf_L4 tfa tfb tdd tsz p0 n x33 x32 w23 w24 w25 w26 w27 w28 w29 w30
def f_X0_genusOf (tfa : Nat → Int32) (tfb : Nat → Int32) (tdd : Int32) (tsz : Int32) (tzra : Int32) (tzrb : Int32) (tzrc : Int32) (tzrp : Int32) (tzrq : Int32) (tzrr : Int32) (tzrs : Int32) (tzrd : Int32) (p0 : Int32) : Option (Int32 × Int32 × Int32 × Int32 × Int32 × Int32 × Int32 × Int32 × Int32) :=
  f_X0_genusOf_L4 tfa tfb tdd tsz p0 100000 (0 : Int32) p0 tzra tzrb tzrc tzrp tzrq tzrr tzrs tzrd
set_option maxHeartbeats 4000000 in
set_option maxRecDepth 100000 in
theorem c_X0_genusOf (l : Launch) (dC : Nat → ClassId) (dI : Nat → Nat → Nat) (cyI cyJ cyC : ClassId) (th tqa tqb tqc tzh : Nat) (sz : Nat) (tfa : Nat → Int32) (tfb : Nat → Int32) (tfc : Nat → Int32) (tdd : Int32) (tsz : Int32) (tzra : Int32) (tzrb : Int32) (tzrc : Int32) (tzrp : Int32) (tzrq : Int32) (tzrr : Int32) (tzrs : Int32) (tzrd : Int32) (p0 : Int32) (rv : Int32) (tzra' : Int32) (tzrb' : Int32) (tzrc' : Int32) (tzrp' : Int32) (tzrq' : Int32) (tzrr' : Int32) (tzrs' : Int32) (tzrd' : Int32) (hf : f_X0_genusOf tfa tfb tdd tsz tzra tzrb tzrc tzrp tzrq tzrr tzrs tzrd p0 = some (rv, tzra', tzrb', tzrc', tzrp', tzrq', tzrr', tzrs', tzrd')) : Met l yX0_genusOf wsX0_genusOf { frames := 4, cells := 0, slots := 0, locals := 95 } (va_Pc [.ref th, .int p0] (mc_Pre (dC, dI) (mc_tys cyI cyJ cyC) [(th, .inr (0, [.ref tqa, .ref tqb, .ref tqc, .ref tzh, .int tdd, .int tsz])), (tqa, .inl (cyI, 40, .inl tfa)), (tqb, .inl (cyI, 40, .inl tfb)), (tqc, .inl (cyI, 40, .inl tfc)), (tzh, .inr (1, [.int tzra, .int tzrb, .int tzrc, .int tzrp, .int tzrq, .int tzrr, .int tzrs, .int tzrd]))] sz)) (va_Qi (fun r (_ : Unit) => r = rv) (fun _ t => mc_Post (dC, dI) (va_A [(th, .inr (0, [.ref tqa, .ref tqb, .ref tqc, .ref tzh, .int tdd, .int tsz])), (tqa, .inl (cyI, 40, .inl tfa)), (tqb, .inl (cyI, 40, .inl tfb)), (tqc, .inl (cyI, 40, .inl tfc)), (tzh, .inr (1, [.int tzra, .int tzrb, .int tzrc, .int tzrp, .int tzrq, .int tzrr, .int tzrs, .int tzrd]))] sz) [(th, .inr (0, [.ref tqa, .ref tqb, .ref tqc, .ref tzh, .int tdd, .int tsz])), (tqa, .inl (cyI, 40, .inl tfa)), (tqb, .inl (cyI, 40, .inl tfb)), (tqc, .inl (cyI, 40, .inl tfc)), (tzh, .inr (1, [.int tzra', .int tzrb', .int tzrc', .int tzrp', .int tzrq', .int tzrr', .int tzrs', .int tzrd']))] t) (va_A [(th, .inr (0, [.ref tqa, .ref tqb, .ref tqc, .ref tzh, .int tdd, .int tsz])), (tqa, .inl (cyI, 40, .inl tfa)), (tqb, .inl (cyI, 40, .inl tfb)), (tqc, .inl (cyI, 40, .inl tfc)), (tzh, .inr (1, [.int tzra, .int tzrb, .int tzrc, .int tzrp, .int tzrq, .int tzrr, .int tzrs, .int tzrd]))] sz)) 0 0 (va_A [(th, .inr (0, [.ref tqa, .ref tqb, .ref tqc, .ref tzh, .int tdd, .int tsz])), (tqa, .inl (cyI, 40, .inl tfa)), (tqb, .inl (cyI, 40, .inl tfb)), (tqc, .inl (cyI, 40, .inl tfc)), (tzh, .inr (1, [.int tzra, .int tzrb, .int tzrc, .int tzrp, .int tzrq, .int tzrr, .int tzrs, .int tzrd]))] sz) := by
  refine Met.ofW (cc := cX0_genusOf) (maxL := 4) (ret := (some .int)) (by decide +kernel) rfl ?_
  intro p e s m args below meth c s₁ B hml hv
  obtain ⟨rfl, hsz, hP, hK, hD0, hnw⟩ := hv
  have hx := B.exec
  have hb := B.bytes
  have hr := B.returns
  have hts := atoms_spec (ws := wsX0_genusOf) B.pre
  have hown : s.vm.findClass RX0 = some m.cls := findClass_of_methodNamed B.named
  have hlocks := B.notSynchronized
  have hinX0 : ∀ w ∈ wsX00, w ∈ wsX0_genusOf := by decide +kernel
  subst hsz
  have hD := hD0.self (sz := s.heap.size)
  generalize hAe : va_A [(th, .inr (0, [.ref tqa, .ref tqb, .ref tqc, .ref tzh, .int tdd, .int tsz])), (tqa, .inl (cyI, 40, .inl tfa)), (tqb, .inl (cyI, 40, .inl tfb)), (tqc, .inl (cyI, 40, .inl tfc)), (tzh, .inr (1, [.int tzra, .int tzrb, .int tzrc, .int tzrp, .int tzrq, .int tzrr, .int tzrs, .int tzrd]))] s.heap.size = A at hD ⊢
  have hA : ∀ q : Nat, s.heap.size ≤ q → A q := fun q h => by rw [← hAe]; exact Or.inr h
  have hS : va_S A s.heap s.heap [] := va_S.rf
  have hP : va_P (dC, dI) vwCl [(th, .inr (0, [.ref tqa, .ref tqb, .ref tqc, .ref tzh, .int tdd, .int tsz])), (tqa, .inl (cyI, 40, .inl tfa)), (tqb, .inl (cyI, 40, .inl tfb)), (tqc, .inl (cyI, 40, .inl tfc)), (tzh, .inr (1, [.int tzra, .int tzrb, .int tzrc, .int tzrp, .int tzrq, .int tzrr, .int tzrs, .int tzrd]))] s.heap := hP
  have hl := lv_entry ([.ref th, .int p0]) (n := 4) (Nat.le_of_ble_eq_true rfl)
  rw [lg_entry_eq]
  generalize (lg_sl ([.ref th, .int p0]) ++ List.replicate (4 - (lg_sl ([.ref th, .int p0])).length) Slot.unset).toArray = ls at hl ⊢
  have hl : lv_has ls 4 [(0, .ref th), (1, .int p0)] := hl
  obtain ⟨QQ, hQQ⟩ : ∃ Q, Q = MQ below (va_Qi (fun r (_ : Unit) => r = rv) (fun _ t => mc_Post (dC, dI) A [(th, .inr (0, [.ref tqa, .ref tqb, .ref tqc, .ref tzh, .int tdd, .int tsz])), (tqa, .inl (cyI, 40, .inl tfa)), (tqb, .inl (cyI, 40, .inl tfb)), (tqc, .inl (cyI, 40, .inl tfc)), (tzh, .inr (1, [.int tzra', .int tzrb', .int tzrc', .int tzrp', .int tzrq', .int tzrr', .int tzrs', .int tzrd']))] t) A) ([Value.ref th, Value.int p0] : List Value).toArray s 0 0 A := ⟨_, rfl⟩
  rw [← hQQ]
  have h := hf
  unfold f_X0_genusOf at h
  refine lv_iload_n hx hb dX0_genusOf_0 rfl (lv_at hl 1 rfl) ?_
  refine lv_istore_n (lv' := [(2, .int p0), (0, .ref th), (1, .int p0)]) hx hb dX0_genusOf_1 rfl hl (by decide) rfl (fun ls hl => ?_)
  refine lv_iconst (v := 0) hx hb dX0_genusOf_2 (by decide) ?_
  refine lv_istore_n (lv' := [(3, .int (0 : Int32)), (2, .int p0), (0, .ref th), (1, .int p0)]) hx hb dX0_genusOf_3 rfl hl (by decide) rfl (fun ls hl => ?_)
  have L4 : ∀ (n4 : Nat) (v1 : Int32) (v2 : Int32) (v3 : Int32) (v4 : Int32) (v5 : Int32) (v6 : Int32) (v7 : Int32) (v8 : Int32) (v9 : Int32) (v10 : Int32) (H : Heap) (locs : List Loc) (ls : Array Slot), f_X0_genusOf_L4 tfa tfb tdd tsz p0 n4 v1 v2 v3 v4 v5 v6 v7 v8 v9 v10 = some (rv, tzra', tzrb', tzrc', tzrp', tzrq', tzrr', tzrs', tzrd') → va_P (dC, dI) vwCl [(th, .inr (0, [.ref tqa, .ref tqb, .ref tqc, .ref tzh, .int tdd, .int tsz])), (tqa, .inl (cyI, 40, .inl tfa)), (tqb, .inl (cyI, 40, .inl tfb)), (tqc, .inl (cyI, 40, .inl tfc)), (tzh, .inr (1, [.int v3, .int v4, .int v5, .int v6, .int v7, .int v8, .int v9, .int v10]))] H → va_D A [(th, .inr (0, [.ref tqa, .ref tqb, .ref tqc, .ref tzh, .int tdd, .int tsz])), (tqa, .inl (cyI, 40, .inl tfa)), (tqb, .inl (cyI, 40, .inl tfb)), (tqc, .inl (cyI, 40, .inl tfc)), (tzh, .inr (1, [.int v3, .int v4, .int v5, .int v6, .int v7, .int v8, .int v9, .int v10]))] → va_S A s.heap H locs → lv_has ls 4 [(3, .int v1), (2, .int v2), (0, .ref th), (1, .int p0)] → W p l e (headSpec wsX0_genusOf { frames := 4, cells := 0, slots := 0, locals := 95 }).room s m ([Value.ref th, Value.int p0] : List Value).toArray below meth c H locs 0 0 QQ (F0 m 4 ls []) := by
    intro n4
    induction n4 with
    | zero =>
      intro v1 v2 v3 v4 v5 v6 v7 v8 v9 v10 H locs ls h
      exact nomatch (show (none : Option (Int32 × Int32 × Int32 × Int32 × Int32 × Int32 × Int32 × Int32 × Int32)) = some _ from h)
    | succ n4 ih4 =>
      intro v1 v2 v3 v4 v5 v6 v7 v8 v9 v10 H locs ls h hP hD hS hl
      rw [f_X0_genusOf_L4] at h
      refine lv_iload_n hx hb dX0_genusOf_4 rfl (lv_at hl 0 rfl) ?_
      refine lv_aload_n hx hb dX0_genusOf_5 rfl (lv_at hl 2 rfl) ?_
      refine va_get (D := (dC, dI)) (ci := 0) (v := .int tsz) (C := RX0) (T := TX0) (N := 6) hx hb hts hinX0 hown hK hP 0 rfl rfl 5 (by decide) (hts (.fieldLink RX0 32 "FormDesk$ClassList" "size" "I") (by decide +kernel)) (fun _ h9 => h9) rfl dX0_genusOf_6 ?_
      refine lv_icmp_ge (tgt := 34) hx hb dX0_genusOf_9 (by decide) (fun hc11 => ?_) (fun hc11 => ?_)
      · have h := dm_t hc11 h
        refine lv_iload_n hx hb dX0_genusOf_34 rfl (lv_at hl 1 rfl) ?_
        obtain ⟨hE0, hE1, hE2, hE3, hE4, hE5, hE6, hE7, hE8⟩ := dm_i9 h
        subst hE0; subst hE1; subst hE2; subst hE3; subst hE4; subst hE5; subst hE6; subst hE7; subst hE8
        rw [hQQ]
        have hP9 := hP.sub (ws' := [(th, .inr (0, [.ref tqa, .ref tqb, .ref tqc, .ref tzh, .int tdd, .int tsz])), (tqa, .inl (cyI, 40, .inl tfa)), (tqb, .inl (cyI, 40, .inl tfb)), (tqc, .inl (cyI, 40, .inl tfc)), (tzh, .inr (1, [.int v3, .int v4, .int v5, .int v6, .int v7, .int v8, .int v9, .int v10]))]) [0, 1, 2, 3, 4] rfl
        have hD9 := hD.sub (ws' := [(th, .inr (0, [.ref tqa, .ref tqb, .ref tqc, .ref tzh, .int tdd, .int tsz])), (tqa, .inl (cyI, 40, .inl tfa)), (tqb, .inl (cyI, 40, .inl tfb)), (tqc, .inl (cyI, 40, .inl tfc)), (tzh, .inr (1, [.int v3, .int v4, .int v5, .int v6, .int v7, .int v8, .int v9, .int v10]))]) [0, 1, 2, 3, 4] (by decide) rfl
        exact W.iret (v := v2) hx hb hr (fun t ht hW => ⟨⟨v2, (), rfl, rfl, by rw [ht]; exact hP9, hD9⟩, hS.F ht⟩) hS.2.2 dX0_genusOf_35
      · have h := dm_f hc11 h
        refine lv_iload_n hx hb dX0_genusOf_12 rfl (lv_at hl 1 rfl) ?_
        refine lv_aload_n hx hb dX0_genusOf_13 rfl (lv_at hl 2 rfl) ?_
        refine lv_iload_n hx hb dX0_genusOf_14 rfl (lv_at hl 3 rfl) ?_
        refine lv_aload_n hx hb dX0_genusOf_15 rfl (lv_at hl 2 rfl) ?_
        refine lv_iload_n hx hb dX0_genusOf_16 rfl (lv_at hl 0 rfl) ?_
        refine lv_iload_n hx hb dX0_genusOf_17 rfl (lv_at hl 0 rfl) ?_
        obtain ⟨r12, w13, w14, w15, w16, w17, w18, w19, w20, hk21, h⟩ := dm_b9s h
        refine mc_i (wr := []) (va_runV (As := [.int v1, .int v1]) (rest := [.int p0, .ref th, .int v2]) ⟨hx, hb, hml, hown, hts⟩ (c_X0_product l dC dI cyI cyJ cyC th tqa tqb tqc tzh H.size tfa tfb tfc tdd tsz v3 v4 v5 v6 v7 v8 v9 v10 v1 v1 r12 w13 w14 w15 w16 w17 w18 w19 w20 hk21) (cwV 2 hts gX0_genusOf_X0_product rfl rfl rfl (by decide +kernel) ⟨(Nat.le_of_ble_eq_true rfl), (Nat.le_of_ble_eq_true rfl)⟩) (mc_preV hK (hP.sub (ws' := [(th, .inr (0, [.ref tqa, .ref tqb, .ref tqc, .ref tzh, .int tdd, .int tsz])), (tqa, .inl (cyI, 40, .inl tfa)), (tqb, .inl (cyI, 40, .inl tfb)), (tqc, .inl (cyI, 40, .inl tfc)), (tzh, .inr (1, [.int v3, .int v4, .int v5, .int v6, .int v7, .int v8, .int v9, .int v10]))]) [0, 1, 2, 3, 4] rfl) (hD.sub (ws' := [(th, .inr (0, [.ref tqa, .ref tqb, .ref tqc, .ref tzh, .int tdd, .int tsz])), (tqa, .inl (cyI, 40, .inl tfa)), (tqb, .inl (cyI, 40, .inl tfb)), (tqc, .inl (cyI, 40, .inl tfc)), (tzh, .inr (1, [.int v3, .int v4, .int v5, .int v6, .int v7, .int v8, .int v9, .int v10]))]) [0, 1, 2, 3, 4] (by decide) rfl) hnw rfl rfl) rfl rfl hl.1 rfl (lv_room (Nat.le_of_ble_eq_true rfl)) dX0_genusOf_18 ⟨Nat.zero_le _, Nat.zero_le _⟩) hP hD hS hA [0, 1, 2, 3, 4] [] rfl rfl rfl (by decide) (fun H locs hP hD hS => ?_)
        have hP : va_P (dC, dI) vwCl [(th, .inr (0, [.ref tqa, .ref tqb, .ref tqc, .ref tzh, .int tdd, .int tsz])), (tqa, .inl (cyI, 40, .inl tfa)), (tqb, .inl (cyI, 40, .inl tfb)), (tqc, .inl (cyI, 40, .inl tfc)), (tzh, .inr (1, [.int w13, .int w14, .int w15, .int w16, .int w17, .int w18, .int w19, .int w20]))] H := hP
        have hD : va_D A [(th, .inr (0, [.ref tqa, .ref tqb, .ref tqc, .ref tzh, .int tdd, .int tsz])), (tqa, .inl (cyI, 40, .inl tfa)), (tqb, .inl (cyI, 40, .inl tfb)), (tqc, .inl (cyI, 40, .inl tfc)), (tzh, .inr (1, [.int w13, .int w14, .int w15, .int w16, .int w17, .int w18, .int w19, .int w20]))] := hD
        obtain ⟨r22, w23, w24, w25, w26, w27, w28, w29, w30, hk31, h⟩ := dm_b9s h
        refine mc_i (wr := []) (va_runV (As := [.int p0, .int r12]) (rest := [.int v2]) ⟨hx, hb, hml, hown, hts⟩ (c_X0_product l dC dI cyI cyJ cyC th tqa tqb tqc tzh H.size tfa tfb tfc tdd tsz w13 w14 w15 w16 w17 w18 w19 w20 p0 r12 r22 w23 w24 w25 w26 w27 w28 w29 w30 hk31) (cwV 2 hts gX0_genusOf_X0_product rfl rfl rfl (by decide +kernel) ⟨(Nat.le_of_ble_eq_true rfl), (Nat.le_of_ble_eq_true rfl)⟩) (mc_preV hK (hP.sub (ws' := [(th, .inr (0, [.ref tqa, .ref tqb, .ref tqc, .ref tzh, .int tdd, .int tsz])), (tqa, .inl (cyI, 40, .inl tfa)), (tqb, .inl (cyI, 40, .inl tfb)), (tqc, .inl (cyI, 40, .inl tfc)), (tzh, .inr (1, [.int w13, .int w14, .int w15, .int w16, .int w17, .int w18, .int w19, .int w20]))]) [0, 1, 2, 3, 4] rfl) (hD.sub (ws' := [(th, .inr (0, [.ref tqa, .ref tqb, .ref tqc, .ref tzh, .int tdd, .int tsz])), (tqa, .inl (cyI, 40, .inl tfa)), (tqb, .inl (cyI, 40, .inl tfb)), (tqc, .inl (cyI, 40, .inl tfc)), (tzh, .inr (1, [.int w13, .int w14, .int w15, .int w16, .int w17, .int w18, .int w19, .int w20]))]) [0, 1, 2, 3, 4] (by decide) rfl) hnw rfl rfl) rfl rfl hl.1 rfl (lv_room (Nat.le_of_ble_eq_true rfl)) dX0_genusOf_21 ⟨Nat.zero_le _, Nat.zero_le _⟩) hP hD hS hA [0, 1, 2, 3, 4] [] rfl rfl rfl (by decide) (fun H locs hP hD hS => ?_)
        have hP : va_P (dC, dI) vwCl [(th, .inr (0, [.ref tqa, .ref tqb, .ref tqc, .ref tzh, .int tdd, .int tsz])), (tqa, .inl (cyI, 40, .inl tfa)), (tqb, .inl (cyI, 40, .inl tfb)), (tqc, .inl (cyI, 40, .inl tfc)), (tzh, .inr (1, [.int w23, .int w24, .int w25, .int w26, .int w27, .int w28, .int w29, .int w30]))] H := hP
        have hD : va_D A [(th, .inr (0, [.ref tqa, .ref tqb, .ref tqc, .ref tzh, .int tdd, .int tsz])), (tqa, .inl (cyI, 40, .inl tfa)), (tqb, .inl (cyI, 40, .inl tfb)), (tqc, .inl (cyI, 40, .inl tfc)), (tzh, .inr (1, [.int w23, .int w24, .int w25, .int w26, .int w27, .int w28, .int w29, .int w30]))] := hD
        refine va_mmin hx hb (hml.trans hl.1.symm) hown (hts (.methodLink RX0 73 Lib.Math.min.name) (by decide +kernel)) (hts (.static Lib.Math.min.name) (by decide +kernel)) (hts (.initialized "java/lang/Math") (by decide +kernel)) (hts (.code Lib.Math.min.name Lib.Math.min.code 2 (some .int)) (by decide +kernel)) (Nat.le_of_ble_eq_true rfl) (Nat.le_of_ble_eq_true rfl) (Nat.zero_le _) (Nat.zero_le _) dX0_genusOf_24 ?_
        refine lv_topi (fun x32 ex32 => ?_)
        have h := dm_lu ex32 h
        refine lv_istore_n (lv' := [(2, .int x32), (3, .int v1), (0, .ref th), (1, .int p0)]) hx hb dX0_genusOf_27 rfl hl (by decide) rfl (fun ls hl => ?_)
        obtain ⟨x33, ex33⟩ : ∃ y : Int32, y = (v1 + (1 : Int32)) := ⟨_, rfl⟩
        have h := dm_lu ex33 h
        refine lv_iinc (v := x33) (lv' := [(3, .int x33), (2, .int x32), (0, .ref th), (1, .int p0)]) hx hb dX0_genusOf_28 hl (k := 1) rfl (by rw [ex33]; rfl) (by decide) rfl (fun ls hl => ?_)
        refine lv_goto (tgt := 4) hx hb dX0_genusOf_31 (by decide) ?_
        exact ih4 x33 x32 w23 w24 w25 w26 w27 w28 w29 w30 H _ ls h (hP.sub [0, 1, 2, 3, 4] rfl) (hD.sub [0, 1, 2, 3, 4] (by decide) rfl) hS (lv_sub hl [0, 1, 2, 3] rfl)
  exact L4 100000 (0 : Int32) p0 tzra tzrb tzrc tzrp tzrq tzrr tzrs tzrd s.heap _ ls h hP hD hS hl

def f_X0_countGenera_L4 (tfa : Nat → Int32) (tfb : Nat → Int32) (tsz : Int32)  : Nat → Int32 → Int32 → Option (Int32)
  | 0, _, _ => none
  | n + 1, v1, v2 =>
    if tsz ≤ v1 then
      some v2
    else
      dm_b1 (f_X0_opposite tfa tfb tsz v1) fun r4 =>
      if r4 = v1 then
        dm_let (v2 + (1 : Int32)) fun x8 =>
        dm_let (v1 + (1 : Int32)) fun x9 =>
        f_X0_countGenera_L4 tfa tfb tsz n x9 x8
      else
        dm_let (v1 + (1 : Int32)) fun x7 =>
        f_X0_countGenera_L4 tfa tfb tsz n x7 v2
def f_X0_countGenera (tfa : Nat → Int32) (tfb : Nat → Int32) (tsz : Int32) : Option (Int32) :=
  f_X0_countGenera_L4 tfa tfb tsz 100000 (0 : Int32) (0 : Int32)
set_option maxHeartbeats 4000000 in
set_option maxRecDepth 100000 in
theorem c_X0_countGenera (l : Launch) (dC : Nat → ClassId) (dI : Nat → Nat → Nat) (cyI cyJ cyC : ClassId) (th tqa tqb tqc tzh : Nat) (sz : Nat) (tfa : Nat → Int32) (tfb : Nat → Int32) (tfc : Nat → Int32) (tdd : Int32) (tsz : Int32) (tzra : Int32) (tzrb : Int32) (tzrc : Int32) (tzrp : Int32) (tzrq : Int32) (tzrr : Int32) (tzrs : Int32) (tzrd : Int32)  (rv : Int32) (hf : f_X0_countGenera tfa tfb tsz = some rv) : Met l yX0_countGenera wsX0_countGenera { frames := 2, cells := 0, slots := 0, locals := 45 } (va_Pc [.ref th] (mc_Pre (dC, dI) (mc_tys cyI cyJ cyC) [(th, .inr (0, [.ref tqa, .ref tqb, .ref tqc, .ref tzh, .int tdd, .int tsz])), (tqa, .inl (cyI, 40, .inl tfa)), (tqb, .inl (cyI, 40, .inl tfb)), (tqc, .inl (cyI, 40, .inl tfc)), (tzh, .inr (1, [.int tzra, .int tzrb, .int tzrc, .int tzrp, .int tzrq, .int tzrr, .int tzrs, .int tzrd]))] sz)) (va_Qi (fun r (_ : Unit) => r = rv) (fun _ t => mc_Post (dC, dI) (va_A [(th, .inr (0, [.ref tqa, .ref tqb, .ref tqc, .ref tzh, .int tdd, .int tsz])), (tqa, .inl (cyI, 40, .inl tfa)), (tqb, .inl (cyI, 40, .inl tfb)), (tqc, .inl (cyI, 40, .inl tfc)), (tzh, .inr (1, [.int tzra, .int tzrb, .int tzrc, .int tzrp, .int tzrq, .int tzrr, .int tzrs, .int tzrd]))] sz) [(th, .inr (0, [.ref tqa, .ref tqb, .ref tqc, .ref tzh, .int tdd, .int tsz])), (tqa, .inl (cyI, 40, .inl tfa)), (tqb, .inl (cyI, 40, .inl tfb)), (tqc, .inl (cyI, 40, .inl tfc)), (tzh, .inr (1, [.int tzra, .int tzrb, .int tzrc, .int tzrp, .int tzrq, .int tzrr, .int tzrs, .int tzrd]))] t) (va_A [(th, .inr (0, [.ref tqa, .ref tqb, .ref tqc, .ref tzh, .int tdd, .int tsz])), (tqa, .inl (cyI, 40, .inl tfa)), (tqb, .inl (cyI, 40, .inl tfb)), (tqc, .inl (cyI, 40, .inl tfc)), (tzh, .inr (1, [.int tzra, .int tzrb, .int tzrc, .int tzrp, .int tzrq, .int tzrr, .int tzrs, .int tzrd]))] sz)) 0 0 (va_A [(th, .inr (0, [.ref tqa, .ref tqb, .ref tqc, .ref tzh, .int tdd, .int tsz])), (tqa, .inl (cyI, 40, .inl tfa)), (tqb, .inl (cyI, 40, .inl tfb)), (tqc, .inl (cyI, 40, .inl tfc)), (tzh, .inr (1, [.int tzra, .int tzrb, .int tzrc, .int tzrp, .int tzrq, .int tzrr, .int tzrs, .int tzrd]))] sz) := by
  refine Met.ofW (cc := cX0_countGenera) (maxL := 3) (ret := (some .int)) (by decide +kernel) rfl ?_
  intro p e s m args below meth c s₁ B hml hv
  obtain ⟨rfl, hsz, hP, hK, hD0, hnw⟩ := hv
  have hx := B.exec
  have hb := B.bytes
  have hr := B.returns
  have hts := atoms_spec (ws := wsX0_countGenera) B.pre
  have hown : s.vm.findClass RX0 = some m.cls := findClass_of_methodNamed B.named
  have hlocks := B.notSynchronized
  have hinX0 : ∀ w ∈ wsX00, w ∈ wsX0_countGenera := by decide +kernel
  subst hsz
  have hD := hD0.self (sz := s.heap.size)
  generalize hAe : va_A [(th, .inr (0, [.ref tqa, .ref tqb, .ref tqc, .ref tzh, .int tdd, .int tsz])), (tqa, .inl (cyI, 40, .inl tfa)), (tqb, .inl (cyI, 40, .inl tfb)), (tqc, .inl (cyI, 40, .inl tfc)), (tzh, .inr (1, [.int tzra, .int tzrb, .int tzrc, .int tzrp, .int tzrq, .int tzrr, .int tzrs, .int tzrd]))] s.heap.size = A at hD ⊢
  have hA : ∀ q : Nat, s.heap.size ≤ q → A q := fun q h => by rw [← hAe]; exact Or.inr h
  have hS : va_S A s.heap s.heap [] := va_S.rf
  have hP : va_P (dC, dI) vwCl [(th, .inr (0, [.ref tqa, .ref tqb, .ref tqc, .ref tzh, .int tdd, .int tsz])), (tqa, .inl (cyI, 40, .inl tfa)), (tqb, .inl (cyI, 40, .inl tfb)), (tqc, .inl (cyI, 40, .inl tfc)), (tzh, .inr (1, [.int tzra, .int tzrb, .int tzrc, .int tzrp, .int tzrq, .int tzrr, .int tzrs, .int tzrd]))] s.heap := hP
  have hl := lv_entry ([.ref th]) (n := 3) (Nat.le_of_ble_eq_true rfl)
  rw [lg_entry_eq]
  generalize (lg_sl ([.ref th]) ++ List.replicate (3 - (lg_sl ([.ref th])).length) Slot.unset).toArray = ls at hl ⊢
  have hl : lv_has ls 3 [(0, .ref th)] := hl
  obtain ⟨QQ, hQQ⟩ : ∃ Q, Q = MQ below (va_Qi (fun r (_ : Unit) => r = rv) (fun _ t => mc_Post (dC, dI) A [(th, .inr (0, [.ref tqa, .ref tqb, .ref tqc, .ref tzh, .int tdd, .int tsz])), (tqa, .inl (cyI, 40, .inl tfa)), (tqb, .inl (cyI, 40, .inl tfb)), (tqc, .inl (cyI, 40, .inl tfc)), (tzh, .inr (1, [.int tzra, .int tzrb, .int tzrc, .int tzrp, .int tzrq, .int tzrr, .int tzrs, .int tzrd]))] t) A) ([Value.ref th] : List Value).toArray s 0 0 A := ⟨_, rfl⟩
  rw [← hQQ]
  have h := hf
  unfold f_X0_countGenera at h
  refine lv_iconst (v := 0) hx hb dX0_countGenera_0 (by decide) ?_
  refine lv_istore_n (lv' := [(1, .int (0 : Int32)), (0, .ref th)]) hx hb dX0_countGenera_1 rfl hl (by decide) rfl (fun ls hl => ?_)
  refine lv_iconst (v := 0) hx hb dX0_countGenera_2 (by decide) ?_
  refine lv_istore_n (lv' := [(2, .int (0 : Int32)), (1, .int (0 : Int32)), (0, .ref th)]) hx hb dX0_countGenera_3 rfl hl (by decide) rfl (fun ls hl => ?_)
  have L4 : ∀ (n4 : Nat) (v1 : Int32) (v2 : Int32) (H : Heap) (locs : List Loc) (ls : Array Slot), f_X0_countGenera_L4 tfa tfb tsz n4 v1 v2 = some rv → va_P (dC, dI) vwCl [(th, .inr (0, [.ref tqa, .ref tqb, .ref tqc, .ref tzh, .int tdd, .int tsz])), (tqa, .inl (cyI, 40, .inl tfa)), (tqb, .inl (cyI, 40, .inl tfb)), (tqc, .inl (cyI, 40, .inl tfc)), (tzh, .inr (1, [.int tzra, .int tzrb, .int tzrc, .int tzrp, .int tzrq, .int tzrr, .int tzrs, .int tzrd]))] H → va_D A [(th, .inr (0, [.ref tqa, .ref tqb, .ref tqc, .ref tzh, .int tdd, .int tsz])), (tqa, .inl (cyI, 40, .inl tfa)), (tqb, .inl (cyI, 40, .inl tfb)), (tqc, .inl (cyI, 40, .inl tfc)), (tzh, .inr (1, [.int tzra, .int tzrb, .int tzrc, .int tzrp, .int tzrq, .int tzrr, .int tzrs, .int tzrd]))] → va_S A s.heap H locs → lv_has ls 3 [(2, .int v1), (1, .int v2), (0, .ref th)] → W p l e (headSpec wsX0_countGenera { frames := 2, cells := 0, slots := 0, locals := 45 }).room s m ([Value.ref th] : List Value).toArray below meth c H locs 0 0 QQ (F0 m 4 ls []) := by
    intro n4
    induction n4 with
    | zero =>
      intro v1 v2 H locs ls h
      exact nomatch (show (none : Option (Int32)) = some _ from h)
    | succ n4 ih4 =>
      intro v1 v2 H locs ls h hP hD hS hl
      rw [f_X0_countGenera_L4] at h
      refine lv_iload_n hx hb dX0_countGenera_4 rfl (lv_at hl 0 rfl) ?_
      refine lv_aload_n hx hb dX0_countGenera_5 rfl (lv_at hl 2 rfl) ?_
      refine va_get (D := (dC, dI)) (ci := 0) (v := .int tsz) (C := RX0) (T := TX0) (N := 6) hx hb hts hinX0 hown hK hP 0 rfl rfl 5 (by decide) (hts (.fieldLink RX0 32 "FormDesk$ClassList" "size" "I") (by decide +kernel)) (fun _ h9 => h9) rfl dX0_countGenera_6 ?_
      refine lv_icmp_ge (tgt := 30) hx hb dX0_countGenera_9 (by decide) (fun hc3 => ?_) (fun hc3 => ?_)
      · have h := dm_t hc3 h
        refine lv_iload_n hx hb dX0_countGenera_30 rfl (lv_at hl 1 rfl) ?_
        obtain hE0 := dm_i1 h
        subst hE0
        rw [hQQ]
        have hP9 := hP.sub (ws' := [(th, .inr (0, [.ref tqa, .ref tqb, .ref tqc, .ref tzh, .int tdd, .int tsz])), (tqa, .inl (cyI, 40, .inl tfa)), (tqb, .inl (cyI, 40, .inl tfb)), (tqc, .inl (cyI, 40, .inl tfc)), (tzh, .inr (1, [.int tzra, .int tzrb, .int tzrc, .int tzrp, .int tzrq, .int tzrr, .int tzrs, .int tzrd]))]) [0, 1, 2, 3, 4] rfl
        have hD9 := hD.sub (ws' := [(th, .inr (0, [.ref tqa, .ref tqb, .ref tqc, .ref tzh, .int tdd, .int tsz])), (tqa, .inl (cyI, 40, .inl tfa)), (tqb, .inl (cyI, 40, .inl tfb)), (tqc, .inl (cyI, 40, .inl tfc)), (tzh, .inr (1, [.int tzra, .int tzrb, .int tzrc, .int tzrp, .int tzrq, .int tzrr, .int tzrs, .int tzrd]))]) [0, 1, 2, 3, 4] (by decide) rfl
        exact W.iret (v := v2) hx hb hr (fun t ht hW => ⟨⟨v2, (), rfl, rfl, by rw [ht]; exact hP9, hD9⟩, hS.F ht⟩) hS.2.2 dX0_countGenera_31
      · have h := dm_f hc3 h
        refine lv_aload_n hx hb dX0_countGenera_12 rfl (lv_at hl 2 rfl) ?_
        refine lv_iload_n hx hb dX0_countGenera_13 rfl (lv_at hl 0 rfl) ?_
        obtain ⟨r4, hk5, h⟩ := dm_b1s h
        refine mc_i (wr := []) (va_runV (As := [.int v1]) (rest := []) ⟨hx, hb, hml, hown, hts⟩ (c_X0_opposite l dC dI cyI cyJ cyC th tqa tqb tqc tzh H.size tfa tfb tfc tdd tsz tzra tzrb tzrc tzrp tzrq tzrr tzrs tzrd v1 r4 hk5) (cwV 1 hts gX0_countGenera_X0_opposite rfl rfl rfl (by decide +kernel) ⟨(Nat.le_of_ble_eq_true rfl), (Nat.le_of_ble_eq_true rfl)⟩) (mc_preV hK (hP.sub (ws' := [(th, .inr (0, [.ref tqa, .ref tqb, .ref tqc, .ref tzh, .int tdd, .int tsz])), (tqa, .inl (cyI, 40, .inl tfa)), (tqb, .inl (cyI, 40, .inl tfb)), (tqc, .inl (cyI, 40, .inl tfc)), (tzh, .inr (1, [.int tzra, .int tzrb, .int tzrc, .int tzrp, .int tzrq, .int tzrr, .int tzrs, .int tzrd]))]) [0, 1, 2, 3, 4] rfl) (hD.sub (ws' := [(th, .inr (0, [.ref tqa, .ref tqb, .ref tqc, .ref tzh, .int tdd, .int tsz])), (tqa, .inl (cyI, 40, .inl tfa)), (tqb, .inl (cyI, 40, .inl tfb)), (tqc, .inl (cyI, 40, .inl tfc)), (tzh, .inr (1, [.int tzra, .int tzrb, .int tzrc, .int tzrp, .int tzrq, .int tzrr, .int tzrs, .int tzrd]))]) [0, 1, 2, 3, 4] (by decide) rfl) hnw rfl rfl) rfl rfl hl.1 rfl (lv_room (Nat.le_of_ble_eq_true rfl)) dX0_countGenera_14 ⟨Nat.zero_le _, Nat.zero_le _⟩) hP hD hS hA [0, 1, 2, 3, 4] [] rfl rfl rfl (by decide) (fun H locs hP hD hS => ?_)
        have hP : va_P (dC, dI) vwCl [(th, .inr (0, [.ref tqa, .ref tqb, .ref tqc, .ref tzh, .int tdd, .int tsz])), (tqa, .inl (cyI, 40, .inl tfa)), (tqb, .inl (cyI, 40, .inl tfb)), (tqc, .inl (cyI, 40, .inl tfc)), (tzh, .inr (1, [.int tzra, .int tzrb, .int tzrc, .int tzrp, .int tzrq, .int tzrr, .int tzrs, .int tzrd]))] H := hP
        have hD : va_D A [(th, .inr (0, [.ref tqa, .ref tqb, .ref tqc, .ref tzh, .int tdd, .int tsz])), (tqa, .inl (cyI, 40, .inl tfa)), (tqb, .inl (cyI, 40, .inl tfb)), (tqc, .inl (cyI, 40, .inl tfc)), (tzh, .inr (1, [.int tzra, .int tzrb, .int tzrc, .int tzrp, .int tzrq, .int tzrr, .int tzrs, .int tzrd]))] := hD
        refine lv_iload_n hx hb dX0_countGenera_17 rfl (lv_at hl 0 rfl) ?_
        refine lv_icmp_ne (tgt := 24) hx hb dX0_countGenera_18 (by decide) (fun hc6 => ?_) (fun hc6 => ?_)
        · have h := dm_f hc6 h
          obtain ⟨x7, ex7⟩ : ∃ y : Int32, y = (v1 + (1 : Int32)) := ⟨_, rfl⟩
          have h := dm_lu ex7 h
          refine lv_iinc (v := x7) (lv' := [(2, .int x7), (1, .int v2), (0, .ref th)]) hx hb dX0_countGenera_24 hl (k := 0) rfl (by rw [ex7]; rfl) (by decide) rfl (fun ls hl => ?_)
          refine lv_goto (tgt := 4) hx hb dX0_countGenera_27 (by decide) ?_
          exact ih4 x7 v2 H _ ls h (hP.sub [0, 1, 2, 3, 4] rfl) (hD.sub [0, 1, 2, 3, 4] (by decide) rfl) hS (lv_sub hl [0, 1, 2] rfl)
        · have h := dm_t hc6 h
          obtain ⟨x8, ex8⟩ : ∃ y : Int32, y = (v2 + (1 : Int32)) := ⟨_, rfl⟩
          have h := dm_lu ex8 h
          refine lv_iinc (v := x8) (lv' := [(1, .int x8), (2, .int v1), (0, .ref th)]) hx hb dX0_countGenera_21 hl (k := 1) rfl (by rw [ex8]; rfl) (by decide) rfl (fun ls hl => ?_)
          obtain ⟨x9, ex9⟩ : ∃ y : Int32, y = (v1 + (1 : Int32)) := ⟨_, rfl⟩
          have h := dm_lu ex9 h
          refine lv_iinc (v := x9) (lv' := [(2, .int x9), (1, .int x8), (0, .ref th)]) hx hb dX0_countGenera_24 hl (k := 1) rfl (by rw [ex9]; rfl) (by decide) rfl (fun ls hl => ?_)
          refine lv_goto (tgt := 4) hx hb dX0_countGenera_27 (by decide) ?_
          exact ih4 x9 x8 H _ ls h (hP.sub [0, 1, 2, 3, 4] rfl) (hD.sub [0, 1, 2, 3, 4] (by decide) rfl) hS (lv_sub hl [0, 1, 2] rfl)
  exact L4 100000 (0 : Int32) (0 : Int32) s.heap _ ls h hP hD hS hl
