def f_X0_middleOfProduct_L77 (tfb : Nat → Int32) (p1 : Int32) (x3 : Int32) (x6 : Int32) (x9 : Int32) (x12 : Int32) (x13 : Int32)  : Nat → Int32 → Int32 → Option (Int32)
  | 0, _, _ => none
  | n + 1, v16, v17 =>
    if x6 ≤ v16 then
      some v17
    else
      dm_g (¬ (p1 < 0 ∨ 40 ≤ (p1).toNatClampNeg)) <|
      dm_g (¬ ((2 : Int32) * x6) = 0) <|
      if ((v17 - (tfb (p1).toNatClampNeg)) - (v17 - (tfb (p1).toNatClampNeg)) / ((2 : Int32) * x6) * ((2 : Int32) * x6)) = 0 then
        dm_g (¬ x13 = 0) <|
        if (((x9 * v17) - x12) - ((x9 * v17) - x12) / x13 * x13) = 0 then
          some v17
        else
          dm_let (v17 + ((2 : Int32) * x3)) fun x26 =>
          dm_let (v16 + (1 : Int32)) fun x27 =>
          f_X0_middleOfProduct_L77 tfb p1 x3 x6 x9 x12 x13 n x27 x26
      else
        dm_let (v17 + ((2 : Int32) * x3)) fun x22 =>
        dm_let (v16 + (1 : Int32)) fun x23 =>
        f_X0_middleOfProduct_L77 tfb p1 x3 x6 x9 x12 x13 n x23 x22
def f_X0_middleOfProduct (tfa : Nat → Int32) (tfb : Nat → Int32) (tdd : Int32) (p0 : Int32) (p1 : Int32) (p2 : Int32) : Option (Int32) :=
  dm_g (¬ (p0 < 0 ∨ 40 ≤ (p0).toNatClampNeg)) <|
  dm_g (¬ p2 = 0) <|
  dm_let ((tfa (p0).toNatClampNeg) / p2) fun x3 =>
  dm_g (¬ (p1 < 0 ∨ 40 ≤ (p1).toNatClampNeg)) <|
  dm_g (¬ p2 = 0) <|
  dm_let ((tfa (p1).toNatClampNeg) / p2) fun x6 =>
  dm_g (¬ (p0 < 0 ∨ 40 ≤ (p0).toNatClampNeg)) <|
  dm_g (¬ (p1 < 0 ∨ 40 ≤ (p1).toNatClampNeg)) <|
  dm_let ((tfb (p0).toNatClampNeg) + (tfb (p1).toNatClampNeg)) fun x9 =>
  dm_g (¬ (p0 < 0 ∨ 40 ≤ (p0).toNatClampNeg)) <|
  dm_g (¬ (p1 < 0 ∨ 40 ≤ (p1).toNatClampNeg)) <|
  dm_let (((tfb (p0).toNatClampNeg) * (tfb (p1).toNatClampNeg)) + tdd) fun x12 =>
  dm_let ((((4 : Int32) * x3) * x6) * p2) fun x13 =>
  dm_g (¬ (p0 < 0 ∨ 40 ≤ (p0).toNatClampNeg)) <|
  dm_let (tfb (p0).toNatClampNeg) fun x15 =>
  f_X0_middleOfProduct_L77 tfb p1 x3 x6 x9 x12 x13 100000 (0 : Int32) x15
set_option maxHeartbeats 4000000 in
set_option maxRecDepth 100000 in
theorem c_X0_middleOfProduct (l : Launch) (dC : Nat → ClassId) (dI : Nat → Nat → Nat) (cyI cyJ cyC : ClassId) (th tqa tqb tqc tzh : Nat) (sz : Nat) (tfa : Nat → Int32) (tfb : Nat → Int32) (tfc : Nat → Int32) (tdd : Int32) (tsz : Int32) (tzra : Int32) (tzrb : Int32) (tzrc : Int32) (tzrp : Int32) (tzrq : Int32) (tzrr : Int32) (tzrs : Int32) (tzrd : Int32) (p0 : Int32) (p1 : Int32) (p2 : Int32) (rv : Int32) (hf : f_X0_middleOfProduct tfa tfb tdd p0 p1 p2 = some rv) : Met l yX0_middleOfProduct wsX0_middleOfProduct { frames := 0, cells := 0, slots := 0, locals := 0 } (va_Pc [.ref th, .int p0, .int p1, .int p2] (mc_Pre (dC, dI) (mc_tys cyI cyJ cyC) [(th, .inr (0, [.ref tqa, .ref tqb, .ref tqc, .ref tzh, .int tdd, .int tsz])), (tqa, .inl (cyI, 40, .inl tfa)), (tqb, .inl (cyI, 40, .inl tfb)), (tqc, .inl (cyI, 40, .inl tfc)), (tzh, .inr (1, [.int tzra, .int tzrb, .int tzrc, .int tzrp, .int tzrq, .int tzrr, .int tzrs, .int tzrd]))] sz)) (va_Qi (fun r (_ : Unit) => r = rv) (fun _ t => mc_Post (dC, dI) (va_A [(th, .inr (0, [.ref tqa, .ref tqb, .ref tqc, .ref tzh, .int tdd, .int tsz])), (tqa, .inl (cyI, 40, .inl tfa)), (tqb, .inl (cyI, 40, .inl tfb)), (tqc, .inl (cyI, 40, .inl tfc)), (tzh, .inr (1, [.int tzra, .int tzrb, .int tzrc, .int tzrp, .int tzrq, .int tzrr, .int tzrs, .int tzrd]))] sz) [(th, .inr (0, [.ref tqa, .ref tqb, .ref tqc, .ref tzh, .int tdd, .int tsz])), (tqa, .inl (cyI, 40, .inl tfa)), (tqb, .inl (cyI, 40, .inl tfb)), (tqc, .inl (cyI, 40, .inl tfc)), (tzh, .inr (1, [.int tzra, .int tzrb, .int tzrc, .int tzrp, .int tzrq, .int tzrr, .int tzrs, .int tzrd]))] t) (va_A [(th, .inr (0, [.ref tqa, .ref tqb, .ref tqc, .ref tzh, .int tdd, .int tsz])), (tqa, .inl (cyI, 40, .inl tfa)), (tqb, .inl (cyI, 40, .inl tfb)), (tqc, .inl (cyI, 40, .inl tfc)), (tzh, .inr (1, [.int tzra, .int tzrb, .int tzrc, .int tzrp, .int tzrq, .int tzrr, .int tzrs, .int tzrd]))] sz)) 0 0 (va_A [(th, .inr (0, [.ref tqa, .ref tqb, .ref tqc, .ref tzh, .int tdd, .int tsz])), (tqa, .inl (cyI, 40, .inl tfa)), (tqb, .inl (cyI, 40, .inl tfb)), (tqc, .inl (cyI, 40, .inl tfc)), (tzh, .inr (1, [.int tzra, .int tzrb, .int tzrc, .int tzrp, .int tzrq, .int tzrr, .int tzrs, .int tzrd]))] sz) := by
  refine Met.ofW (cc := cX0_middleOfProduct) (maxL := 11) (ret := (some .int)) (by decide +kernel) rfl ?_
  intro p e s m args below meth c s₁ B hml hv
  obtain ⟨rfl, hsz, hP, hK, hD0, hnw⟩ := hv
  have hx := B.exec
  have hb := B.bytes
  have hr := B.returns
  have hts := atoms_spec (ws := wsX0_middleOfProduct) B.pre
  have hown : s.vm.findClass RX0 = some m.cls := findClass_of_methodNamed B.named
  have hlocks := B.notSynchronized
  have hinX0 : ∀ w ∈ wsX00, w ∈ wsX0_middleOfProduct := by decide +kernel
  subst hsz
  have hD := hD0.self (sz := s.heap.size)
  generalize hAe : va_A [(th, .inr (0, [.ref tqa, .ref tqb, .ref tqc, .ref tzh, .int tdd, .int tsz])), (tqa, .inl (cyI, 40, .inl tfa)), (tqb, .inl (cyI, 40, .inl tfb)), (tqc, .inl (cyI, 40, .inl tfc)), (tzh, .inr (1, [.int tzra, .int tzrb, .int tzrc, .int tzrp, .int tzrq, .int tzrr, .int tzrs, .int tzrd]))] s.heap.size = A at hD ⊢
  have hA : ∀ q : Nat, s.heap.size ≤ q → A q := fun q h => by rw [← hAe]; exact Or.inr h
  have hS : va_S A s.heap s.heap [] := va_S.rf
  have hP : va_P (dC, dI) vwCl [(th, .inr (0, [.ref tqa, .ref tqb, .ref tqc, .ref tzh, .int tdd, .int tsz])), (tqa, .inl (cyI, 40, .inl tfa)), (tqb, .inl (cyI, 40, .inl tfb)), (tqc, .inl (cyI, 40, .inl tfc)), (tzh, .inr (1, [.int tzra, .int tzrb, .int tzrc, .int tzrp, .int tzrq, .int tzrr, .int tzrs, .int tzrd]))] s.heap := hP
  have hl := lv_entry ([.ref th, .int p0, .int p1, .int p2]) (n := 11) (Nat.le_of_ble_eq_true rfl)
  rw [lg_entry_eq]
  generalize (lg_sl ([.ref th, .int p0, .int p1, .int p2]) ++ List.replicate (11 - (lg_sl ([.ref th, .int p0, .int p1, .int p2])).length) Slot.unset).toArray = ls at hl ⊢
  have hl : lv_has ls 11 [(0, .ref th), (1, .int p0), (2, .int p1), (3, .int p2)] := hl
  obtain ⟨QQ, hQQ⟩ : ∃ Q, Q = MQ below (va_Qi (fun r (_ : Unit) => r = rv) (fun _ t => mc_Post (dC, dI) A [(th, .inr (0, [.ref tqa, .ref tqb, .ref tqc, .ref tzh, .int tdd, .int tsz])), (tqa, .inl (cyI, 40, .inl tfa)), (tqb, .inl (cyI, 40, .inl tfb)), (tqc, .inl (cyI, 40, .inl tfc)), (tzh, .inr (1, [.int tzra, .int tzrb, .int tzrc, .int tzrp, .int tzrq, .int tzrr, .int tzrs, .int tzrd]))] t) A) ([Value.ref th, Value.int p0, Value.int p1, Value.int p2] : List Value).toArray s 0 0 A := ⟨_, rfl⟩
  rw [← hQQ]
  have h := hf
  unfold f_X0_middleOfProduct at h
  refine lv_aload_n hx hb dX0_middleOfProduct_0 rfl (lv_at hl 0 rfl) ?_
  refine va_get (D := (dC, dI)) (ci := 0) (v := .ref tqa) (C := RX0) (T := TX0) (N := 6) hx hb hts hinX0 hown hK hP 0 rfl rfl 0 (by decide) (hts (.fieldLink RX0 9 "FormDesk$ClassList" "a" "[I") (by decide +kernel)) (fun _ h9 => h9) rfl dX0_middleOfProduct_1 ?_
  refine lv_iload_n hx hb dX0_middleOfProduct_4 rfl (lv_at hl 1 rfl) ?_
  obtain ⟨hn1, h⟩ := dm_gs h
  refine va_iald hx hb hK hP 1 0 rfl rfl hn1 dX0_middleOfProduct_5 ?_
  refine lv_iload_n hx hb dX0_middleOfProduct_6 rfl (lv_at hl 3 rfl) ?_
  obtain ⟨hn2, h⟩ := dm_gs h
  refine lv_idiv hx hb dX0_middleOfProduct_7 hn2 ?_
  refine lv_topi (fun x3 ex3 => ?_)
  have h := dm_lu ex3 h
  refine lv_istore (lv' := [(4, .int x3), (0, .ref th), (1, .int p0), (2, .int p1), (3, .int p2)]) hx hb dX0_middleOfProduct_8 hl (by decide) rfl (fun ls hl => ?_)
  refine lv_aload_n hx hb dX0_middleOfProduct_10 rfl (lv_at hl 1 rfl) ?_
  refine va_get (D := (dC, dI)) (ci := 0) (v := .ref tqa) (C := RX0) (T := TX0) (N := 6) hx hb hts hinX0 hown hK hP 0 rfl rfl 0 (by decide) (hts (.fieldLink RX0 9 "FormDesk$ClassList" "a" "[I") (by decide +kernel)) (fun _ h9 => h9) rfl dX0_middleOfProduct_11 ?_
  refine lv_iload_n hx hb dX0_middleOfProduct_14 rfl (lv_at hl 3 rfl) ?_
  obtain ⟨hn4, h⟩ := dm_gs h
  refine va_iald hx hb hK hP 1 0 rfl rfl hn4 dX0_middleOfProduct_15 ?_
  refine lv_iload_n hx hb dX0_middleOfProduct_16 rfl (lv_at hl 4 rfl) ?_
  obtain ⟨hn5, h⟩ := dm_gs h
  refine lv_idiv hx hb dX0_middleOfProduct_17 hn5 ?_
  refine lv_topi (fun x6 ex6 => ?_)
  have h := dm_lu ex6 h
  refine lv_istore (lv' := [(5, .int x6), (4, .int x3), (0, .ref th), (1, .int p0), (2, .int p1), (3, .int p2)]) hx hb dX0_middleOfProduct_18 hl (by decide) rfl (fun ls hl => ?_)
  refine lv_aload_n hx hb dX0_middleOfProduct_20 rfl (lv_at hl 2 rfl) ?_
  refine va_get (D := (dC, dI)) (ci := 0) (v := .ref tqb) (C := RX0) (T := TX0) (N := 6) hx hb hts hinX0 hown hK hP 0 rfl rfl 1 (by decide) (hts (.fieldLink RX0 15 "FormDesk$ClassList" "b" "[I") (by decide +kernel)) (fun _ h9 => h9) rfl dX0_middleOfProduct_21 ?_
  refine lv_iload_n hx hb dX0_middleOfProduct_24 rfl (lv_at hl 3 rfl) ?_
  obtain ⟨hn7, h⟩ := dm_gs h
  refine va_iald hx hb hK hP 2 0 rfl rfl hn7 dX0_middleOfProduct_25 ?_
  refine lv_aload_n hx hb dX0_middleOfProduct_26 rfl (lv_at hl 2 rfl) ?_
  refine va_get (D := (dC, dI)) (ci := 0) (v := .ref tqb) (C := RX0) (T := TX0) (N := 6) hx hb hts hinX0 hown hK hP 0 rfl rfl 1 (by decide) (hts (.fieldLink RX0 15 "FormDesk$ClassList" "b" "[I") (by decide +kernel)) (fun _ h9 => h9) rfl dX0_middleOfProduct_27 ?_
  refine lv_iload_n hx hb dX0_middleOfProduct_30 rfl (lv_at hl 4 rfl) ?_
  obtain ⟨hn8, h⟩ := dm_gs h
  refine va_iald hx hb hK hP 2 0 rfl rfl hn8 dX0_middleOfProduct_31 ?_
  refine lv_iadd hx hb dX0_middleOfProduct_32 ?_
  refine lv_topi (fun x9 ex9 => ?_)
  have h := dm_lu ex9 h
  refine lv_istore (lv' := [(6, .int x9), (5, .int x6), (4, .int x3), (0, .ref th), (1, .int p0), (2, .int p1), (3, .int p2)]) hx hb dX0_middleOfProduct_33 hl (by decide) rfl (fun ls hl => ?_)
  refine lv_aload_n hx hb dX0_middleOfProduct_35 rfl (lv_at hl 3 rfl) ?_
  refine va_get (D := (dC, dI)) (ci := 0) (v := .ref tqb) (C := RX0) (T := TX0) (N := 6) hx hb hts hinX0 hown hK hP 0 rfl rfl 1 (by decide) (hts (.fieldLink RX0 15 "FormDesk$ClassList" "b" "[I") (by decide +kernel)) (fun _ h9 => h9) rfl dX0_middleOfProduct_36 ?_
  refine lv_iload_n hx hb dX0_middleOfProduct_39 rfl (lv_at hl 4 rfl) ?_
  obtain ⟨hn10, h⟩ := dm_gs h
  refine va_iald hx hb hK hP 2 0 rfl rfl hn10 dX0_middleOfProduct_40 ?_
  refine lv_aload_n hx hb dX0_middleOfProduct_41 rfl (lv_at hl 3 rfl) ?_
  refine va_get (D := (dC, dI)) (ci := 0) (v := .ref tqb) (C := RX0) (T := TX0) (N := 6) hx hb hts hinX0 hown hK hP 0 rfl rfl 1 (by decide) (hts (.fieldLink RX0 15 "FormDesk$ClassList" "b" "[I") (by decide +kernel)) (fun _ h9 => h9) rfl dX0_middleOfProduct_42 ?_
  refine lv_iload_n hx hb dX0_middleOfProduct_45 rfl (lv_at hl 5 rfl) ?_
  obtain ⟨hn11, h⟩ := dm_gs h
  refine va_iald hx hb hK hP 2 0 rfl rfl hn11 dX0_middleOfProduct_46 ?_
  refine lv_imul hx hb dX0_middleOfProduct_47 ?_
  refine lv_aload_n hx hb dX0_middleOfProduct_48 rfl (lv_at hl 3 rfl) ?_
  refine va_get (D := (dC, dI)) (ci := 0) (v := .int tdd) (C := RX0) (T := TX0) (N := 6) hx hb hts hinX0 hown hK hP 0 rfl rfl 4 (by decide) (hts (.fieldLink RX0 28 "FormDesk$ClassList" "discriminant" "I") (by decide +kernel)) (fun _ h9 => h9) rfl dX0_middleOfProduct_49 ?_
  refine lv_iadd hx hb dX0_middleOfProduct_52 ?_
  refine lv_topi (fun x12 ex12 => ?_)
  have h := dm_lu ex12 h
  refine lv_istore (lv' := [(7, .int x12), (6, .int x9), (5, .int x6), (4, .int x3), (0, .ref th), (1, .int p0), (2, .int p1), (3, .int p2)]) hx hb dX0_middleOfProduct_53 hl (by decide) rfl (fun ls hl => ?_)
  refine lv_iconst (v := 4) hx hb dX0_middleOfProduct_55 (by decide) ?_
  refine lv_iload hx hb dX0_middleOfProduct_56 (lv_at hl 3 rfl) ?_
  refine lv_imul hx hb dX0_middleOfProduct_58 ?_
  refine lv_iload hx hb dX0_middleOfProduct_59 (lv_at hl 2 rfl) ?_
  refine lv_imul hx hb dX0_middleOfProduct_61 ?_
  refine lv_iload_n hx hb dX0_middleOfProduct_62 rfl (lv_at hl 7 rfl) ?_
  refine lv_imul hx hb dX0_middleOfProduct_63 ?_
  refine lv_topi (fun x13 ex13 => ?_)
  have h := dm_lu ex13 h
  refine lv_istore (lv' := [(8, .int x13), (7, .int x12), (6, .int x9), (5, .int x6), (4, .int x3), (0, .ref th), (1, .int p0), (2, .int p1), (3, .int p2)]) hx hb dX0_middleOfProduct_64 hl (by decide) rfl (fun ls hl => ?_)
  refine lv_aload_n hx hb dX0_middleOfProduct_66 rfl (lv_at hl 5 rfl) ?_
  refine va_get (D := (dC, dI)) (ci := 0) (v := .ref tqb) (C := RX0) (T := TX0) (N := 6) hx hb hts hinX0 hown hK hP 0 rfl rfl 1 (by decide) (hts (.fieldLink RX0 15 "FormDesk$ClassList" "b" "[I") (by decide +kernel)) (fun _ h9 => h9) rfl dX0_middleOfProduct_67 ?_
  refine lv_iload_n hx hb dX0_middleOfProduct_70 rfl (lv_at hl 6 rfl) ?_
  obtain ⟨hn14, h⟩ := dm_gs h
  refine va_iald hx hb hK hP 2 0 rfl rfl hn14 dX0_middleOfProduct_71 ?_
  refine lv_topi (fun x15 ex15 => ?_)
  have h := dm_lu ex15 h
  refine lv_istore (lv' := [(9, .int x15), (8, .int x13), (7, .int x12), (6, .int x9), (5, .int x6), (4, .int x3), (0, .ref th), (1, .int p0), (2, .int p1), (3, .int p2)]) hx hb dX0_middleOfProduct_72 hl (by decide) rfl (fun ls hl => ?_)
  refine lv_iconst (v := 0) hx hb dX0_middleOfProduct_74 (by decide) ?_
  refine lv_istore (lv' := [(10, .int (0 : Int32)), (9, .int x15), (8, .int x13), (7, .int x12), (6, .int x9), (5, .int x6), (4, .int x3), (0, .ref th), (1, .int p0), (2, .int p1), (3, .int p2)]) hx hb dX0_middleOfProduct_75 hl (by decide) rfl (fun ls hl => ?_)
  have L77 : ∀ (n77 : Nat) (v16 : Int32) (v17 : Int32) (H : Heap) (locs : List Loc) (ls : Array Slot), f_X0_middleOfProduct_L77 tfb p1 x3 x6 x9 x12 x13 n77 v16 v17 = some rv → va_P (dC, dI) vwCl [(th, .inr (0, [.ref tqa, .ref tqb, .ref tqc, .ref tzh, .int tdd, .int tsz])), (tqa, .inl (cyI, 40, .inl tfa)), (tqb, .inl (cyI, 40, .inl tfb)), (tqc, .inl (cyI, 40, .inl tfc)), (tzh, .inr (1, [.int tzra, .int tzrb, .int tzrc, .int tzrp, .int tzrq, .int tzrr, .int tzrs, .int tzrd]))] H → va_D A [(th, .inr (0, [.ref tqa, .ref tqb, .ref tqc, .ref tzh, .int tdd, .int tsz])), (tqa, .inl (cyI, 40, .inl tfa)), (tqb, .inl (cyI, 40, .inl tfb)), (tqc, .inl (cyI, 40, .inl tfc)), (tzh, .inr (1, [.int tzra, .int tzrb, .int tzrc, .int tzrp, .int tzrq, .int tzrr, .int tzrs, .int tzrd]))] → va_S A s.heap H locs → lv_has ls 11 [(10, .int v16), (9, .int v17), (8, .int x13), (7, .int x12), (6, .int x9), (5, .int x6), (4, .int x3), (0, .ref th), (1, .int p0), (2, .int p1), (3, .int p2)] → W p l e (headSpec wsX0_middleOfProduct { frames := 0, cells := 0, slots := 0, locals := 0 }).room s m ([Value.ref th, Value.int p0, Value.int p1, Value.int p2] : List Value).toArray below meth c H locs 0 0 QQ (F0 m 77 ls []) := by
    intro n77
    induction n77 with
    | zero =>
      intro v16 v17 H locs ls h
      exact nomatch (show (none : Option (Int32)) = some _ from h)
    | succ n77 ih77 =>
      intro v16 v17 H locs ls h hP hD hS hl
      rw [f_X0_middleOfProduct_L77] at h
      refine lv_iload hx hb dX0_middleOfProduct_77 (lv_at hl 0 rfl) ?_
      refine lv_iload hx hb dX0_middleOfProduct_79 (lv_at hl 5 rfl) ?_
      refine lv_icmp_ge (tgt := 133) hx hb dX0_middleOfProduct_81 (by decide) (fun hc18 => ?_) (fun hc18 => ?_)
      · have h := dm_t hc18 h
        refine lv_iload hx hb dX0_middleOfProduct_133 (lv_at hl 1 rfl) ?_
        obtain hE0 := dm_i1 h
        subst hE0
        rw [hQQ]
        have hP9 := hP.sub (ws' := [(th, .inr (0, [.ref tqa, .ref tqb, .ref tqc, .ref tzh, .int tdd, .int tsz])), (tqa, .inl (cyI, 40, .inl tfa)), (tqb, .inl (cyI, 40, .inl tfb)), (tqc, .inl (cyI, 40, .inl tfc)), (tzh, .inr (1, [.int tzra, .int tzrb, .int tzrc, .int tzrp, .int tzrq, .int tzrr, .int tzrs, .int tzrd]))]) [0, 1, 2, 3, 4] rfl
        have hD9 := hD.sub (ws' := [(th, .inr (0, [.ref tqa, .ref tqb, .ref tqc, .ref tzh, .int tdd, .int tsz])), (tqa, .inl (cyI, 40, .inl tfa)), (tqb, .inl (cyI, 40, .inl tfb)), (tqc, .inl (cyI, 40, .inl tfc)), (tzh, .inr (1, [.int tzra, .int tzrb, .int tzrc, .int tzrp, .int tzrq, .int tzrr, .int tzrs, .int tzrd]))]) [0, 1, 2, 3, 4] (by decide) rfl
        exact W.iret (v := v17) hx hb hr (fun t ht hW => ⟨⟨v17, (), rfl, rfl, by rw [ht]; exact hP9, hD9⟩, hS.F ht⟩) hS.2.2 dX0_middleOfProduct_135
      · have h := dm_f hc18 h
        refine lv_iload hx hb dX0_middleOfProduct_84 (lv_at hl 1 rfl) ?_
        refine lv_aload_n hx hb dX0_middleOfProduct_86 rfl (lv_at hl 7 rfl) ?_
        refine va_get (D := (dC, dI)) (ci := 0) (v := .ref tqb) (C := RX0) (T := TX0) (N := 6) hx hb hts hinX0 hown hK hP 0 rfl rfl 1 (by decide) (hts (.fieldLink RX0 15 "FormDesk$ClassList" "b" "[I") (by decide +kernel)) (fun _ h9 => h9) rfl dX0_middleOfProduct_87 ?_
        refine lv_iload_n hx hb dX0_middleOfProduct_90 rfl (lv_at hl 9 rfl) ?_
        obtain ⟨hn19, h⟩ := dm_gs h
        refine va_iald hx hb hK hP 2 0 rfl rfl hn19 dX0_middleOfProduct_91 ?_
        refine lv_isub hx hb dX0_middleOfProduct_92 ?_
        refine lv_iconst (v := 2) hx hb dX0_middleOfProduct_93 (by decide) ?_
        refine lv_iload hx hb dX0_middleOfProduct_94 (lv_at hl 5 rfl) ?_
        refine lv_imul hx hb dX0_middleOfProduct_96 ?_
        obtain ⟨hn20, h⟩ := dm_gs h
        refine lv_irem hx hb dX0_middleOfProduct_97 hn20 ?_
        refine lv_if_ne (tgt := 118) hx hb dX0_middleOfProduct_98 (by decide) (fun hc21 => ?_) (fun hc21 => ?_)
        · have h := dm_f hc21 h
          refine lv_iload hx hb dX0_middleOfProduct_118 (lv_at hl 1 rfl) ?_
          refine lv_iconst (v := 2) hx hb dX0_middleOfProduct_120 (by decide) ?_
          refine lv_iload hx hb dX0_middleOfProduct_121 (lv_at hl 6 rfl) ?_
          refine lv_imul hx hb dX0_middleOfProduct_123 ?_
          refine lv_iadd hx hb dX0_middleOfProduct_124 ?_
          refine lv_topi (fun x22 ex22 => ?_)
          have h := dm_lu ex22 h
          refine lv_istore (lv' := [(9, .int x22), (10, .int v16), (8, .int x13), (7, .int x12), (6, .int x9), (5, .int x6), (4, .int x3), (0, .ref th), (1, .int p0), (2, .int p1), (3, .int p2)]) hx hb dX0_middleOfProduct_125 hl (by decide) rfl (fun ls hl => ?_)
          obtain ⟨x23, ex23⟩ : ∃ y : Int32, y = (v16 + (1 : Int32)) := ⟨_, rfl⟩
          have h := dm_lu ex23 h
          refine lv_iinc (v := x23) (lv' := [(10, .int x23), (9, .int x22), (8, .int x13), (7, .int x12), (6, .int x9), (5, .int x6), (4, .int x3), (0, .ref th), (1, .int p0), (2, .int p1), (3, .int p2)]) hx hb dX0_middleOfProduct_127 hl (k := 1) rfl (by rw [ex23]; rfl) (by decide) rfl (fun ls hl => ?_)
          refine lv_goto (tgt := 77) hx hb dX0_middleOfProduct_130 (by decide) ?_
          exact ih77 x23 x22 H _ ls h (hP.sub [0, 1, 2, 3, 4] rfl) (hD.sub [0, 1, 2, 3, 4] (by decide) rfl) hS (lv_sub hl [0, 1, 2, 3, 4, 5, 6, 7, 8, 9, 10] rfl)
        · have h := dm_t hc21 h
          refine lv_iload hx hb dX0_middleOfProduct_101 (lv_at hl 4 rfl) ?_
          refine lv_iload hx hb dX0_middleOfProduct_103 (lv_at hl 1 rfl) ?_
          refine lv_imul hx hb dX0_middleOfProduct_105 ?_
          refine lv_iload hx hb dX0_middleOfProduct_106 (lv_at hl 3 rfl) ?_
          refine lv_isub hx hb dX0_middleOfProduct_108 ?_
          refine lv_iload hx hb dX0_middleOfProduct_109 (lv_at hl 2 rfl) ?_
          obtain ⟨hn24, h⟩ := dm_gs h
          refine lv_irem hx hb dX0_middleOfProduct_111 hn24 ?_
          refine lv_if_ne (tgt := 118) hx hb dX0_middleOfProduct_112 (by decide) (fun hc25 => ?_) (fun hc25 => ?_)
          · have h := dm_f hc25 h
            refine lv_iload hx hb dX0_middleOfProduct_118 (lv_at hl 1 rfl) ?_
            refine lv_iconst (v := 2) hx hb dX0_middleOfProduct_120 (by decide) ?_
            refine lv_iload hx hb dX0_middleOfProduct_121 (lv_at hl 6 rfl) ?_
            refine lv_imul hx hb dX0_middleOfProduct_123 ?_
            refine lv_iadd hx hb dX0_middleOfProduct_124 ?_
            refine lv_topi (fun x26 ex26 => ?_)
            have h := dm_lu ex26 h
            refine lv_istore (lv' := [(9, .int x26), (10, .int v16), (8, .int x13), (7, .int x12), (6, .int x9), (5, .int x6), (4, .int x3), (0, .ref th), (1, .int p0), (2, .int p1), (3, .int p2)]) hx hb dX0_middleOfProduct_125 hl (by decide) rfl (fun ls hl => ?_)
            obtain ⟨x27, ex27⟩ : ∃ y : Int32, y = (v16 + (1 : Int32)) := ⟨_, rfl⟩
            have h := dm_lu ex27 h
            refine lv_iinc (v := x27) (lv' := [(10, .int x27), (9, .int x26), (8, .int x13), (7, .int x12), (6, .int x9), (5, .int x6), (4, .int x3), (0, .ref th), (1, .int p0), (2, .int p1), (3, .int p2)]) hx hb dX0_middleOfProduct_127 hl (k := 1) rfl (by rw [ex27]; rfl) (by decide) rfl (fun ls hl => ?_)
            refine lv_goto (tgt := 77) hx hb dX0_middleOfProduct_130 (by decide) ?_
            exact ih77 x27 x26 H _ ls h (hP.sub [0, 1, 2, 3, 4] rfl) (hD.sub [0, 1, 2, 3, 4] (by decide) rfl) hS (lv_sub hl [0, 1, 2, 3, 4, 5, 6, 7, 8, 9, 10] rfl)
          · have h := dm_t hc25 h
            refine lv_iload hx hb dX0_middleOfProduct_115 (lv_at hl 1 rfl) ?_
            obtain hE0 := dm_i1 h
            subst hE0
            rw [hQQ]
            have hP9 := hP.sub (ws' := [(th, .inr (0, [.ref tqa, .ref tqb, .ref tqc, .ref tzh, .int tdd, .int tsz])), (tqa, .inl (cyI, 40, .inl tfa)), (tqb, .inl (cyI, 40, .inl tfb)), (tqc, .inl (cyI, 40, .inl tfc)), (tzh, .inr (1, [.int tzra, .int tzrb, .int tzrc, .int tzrp, .int tzrq, .int tzrr, .int tzrs, .int tzrd]))]) [0, 1, 2, 3, 4] rfl
            have hD9 := hD.sub (ws' := [(th, .inr (0, [.ref tqa, .ref tqb, .ref tqc, .ref tzh, .int tdd, .int tsz])), (tqa, .inl (cyI, 40, .inl tfa)), (tqb, .inl (cyI, 40, .inl tfb)), (tqc, .inl (cyI, 40, .inl tfc)), (tzh, .inr (1, [.int tzra, .int tzrb, .int tzrc, .int tzrp, .int tzrq, .int tzrr, .int tzrs, .int tzrd]))]) [0, 1, 2, 3, 4] (by decide) rfl
            exact W.iret (v := v17) hx hb hr (fun t ht hW => ⟨⟨v17, (), rfl, rfl, by rw [ht]; exact hP9, hD9⟩, hS.F ht⟩) hS.2.2 dX0_middleOfProduct_117
  exact L77 100000 (0 : Int32) x15 s.heap _ ls h hP hD hS hl

def f_X0_product (tfa : Nat → Int32) (tfb : Nat → Int32) (tdd : Int32) (tsz : Int32) (p0 : Int32) (p1 : Int32) : Option (Int32 × Int32 × Int32 × Int32 × Int32 × Int32 × Int32 × Int32 × Int32) :=
  dm_g (¬ (p0 < 0 ∨ 40 ≤ (p0).toNatClampNeg)) <|
  dm_g (¬ (p1 < 0 ∨ 40 ≤ (p1).toNatClampNeg)) <|
  dm_b1 (f_X3_gcd (tfa (p0).toNatClampNeg) (tfa (p1).toNatClampNeg)) fun r3 =>
  dm_g (¬ (p0 < 0 ∨ 40 ≤ (p0).toNatClampNeg)) <|
  dm_g (¬ (p1 < 0 ∨ 40 ≤ (p1).toNatClampNeg)) <|
  dm_b1 (f_X3_gcd r3 (((tfb (p0).toNatClampNeg) + (tfb (p1).toNatClampNeg)) / (2 : Int32))) fun r7 =>
  dm_g (¬ (p0 < 0 ∨ 40 ≤ (p0).toNatClampNeg)) <|
  dm_g (¬ r7 = 0) <|
  dm_g (¬ (p1 < 0 ∨ 40 ≤ (p1).toNatClampNeg)) <|
  dm_g (¬ r7 = 0) <|
  dm_let (((tfa (p0).toNatClampNeg) / r7) * ((tfa (p1).toNatClampNeg) / r7)) fun x13 =>
  dm_b1 (f_X0_middleOfProduct tfa tfb tdd p0 p1 r7) fun r14 =>
  dm_g (¬ ((4 : Int32) * x13) = 0) <|
  dm_b9 (f_X1_run x13 r14 (((r14 * r14) - tdd) / ((4 : Int32) * x13))) fun r17 w18 w19 w20 w21 w22 w23 w24 w25 =>
  dm_b1 (f_X0_find tfa tfb tsz w18 w19) fun r27 =>
  some (r27, w18, w19, w20, w21, w22, w23, w24, w25)
set_option maxHeartbeats 4000000 in
set_option maxRecDepth 100000 in
theorem c_X0_product (l : Launch) (dC : Nat → ClassId) (dI : Nat → Nat → Nat) (cyI cyJ cyC : ClassId) (th tqa tqb tqc tzh : Nat) (sz : Nat) (tfa : Nat → Int32) (tfb : Nat → Int32) (tfc : Nat → Int32) (tdd : Int32) (tsz : Int32) (tzra : Int32) (tzrb : Int32) (tzrc : Int32) (tzrp : Int32) (tzrq : Int32) (tzrr : Int32) (tzrs : Int32) (tzrd : Int32) (p0 : Int32) (p1 : Int32) (rv : Int32) (tzra' : Int32) (tzrb' : Int32) (tzrc' : Int32) (tzrp' : Int32) (tzrq' : Int32) (tzrr' : Int32) (tzrs' : Int32) (tzrd' : Int32) (hf : f_X0_product tfa tfb tdd tsz p0 p1 = some (rv, tzra', tzrb', tzrc', tzrp', tzrq', tzrr', tzrs', tzrd')) : Met l yX0_product wsX0_product { frames := 3, cells := 0, slots := 0, locals := 67 } (va_Pc [.ref th, .int p0, .int p1] (mc_Pre (dC, dI) (mc_tys cyI cyJ cyC) [(th, .inr (0, [.ref tqa, .ref tqb, .ref tqc, .ref tzh, .int tdd, .int tsz])), (tqa, .inl (cyI, 40, .inl tfa)), (tqb, .inl (cyI, 40, .inl tfb)), (tqc, .inl (cyI, 40, .inl tfc)), (tzh, .inr (1, [.int tzra, .int tzrb, .int tzrc, .int tzrp, .int tzrq, .int tzrr, .int tzrs, .int tzrd]))] sz)) (va_Qi (fun r (_ : Unit) => r = rv) (fun _ t => mc_Post (dC, dI) (va_A [(th, .inr (0, [.ref tqa, .ref tqb, .ref tqc, .ref tzh, .int tdd, .int tsz])), (tqa, .inl (cyI, 40, .inl tfa)), (tqb, .inl (cyI, 40, .inl tfb)), (tqc, .inl (cyI, 40, .inl tfc)), (tzh, .inr (1, [.int tzra, .int tzrb, .int tzrc, .int tzrp, .int tzrq, .int tzrr, .int tzrs, .int tzrd]))] sz) [(th, .inr (0, [.ref tqa, .ref tqb, .ref tqc, .ref tzh, .int tdd, .int tsz])), (tqa, .inl (cyI, 40, .inl tfa)), (tqb, .inl (cyI, 40, .inl tfb)), (tqc, .inl (cyI, 40, .inl tfc)), (tzh, .inr (1, [.int tzra', .int tzrb', .int tzrc', .int tzrp', .int tzrq', .int tzrr', .int tzrs', .int tzrd']))] t) (va_A [(th, .inr (0, [.ref tqa, .ref tqb, .ref tqc, .ref tzh, .int tdd, .int tsz])), (tqa, .inl (cyI, 40, .inl tfa)), (tqb, .inl (cyI, 40, .inl tfb)), (tqc, .inl (cyI, 40, .inl tfc)), (tzh, .inr (1, [.int tzra, .int tzrb, .int tzrc, .int tzrp, .int tzrq, .int tzrr, .int tzrs, .int tzrd]))] sz)) 0 0 (va_A [(th, .inr (0, [.ref tqa, .ref tqb, .ref tqc, .ref tzh, .int tdd, .int tsz])), (tqa, .inl (cyI, 40, .inl tfa)), (tqb, .inl (cyI, 40, .inl tfb)), (tqc, .inl (cyI, 40, .inl tfc)), (tzh, .inr (1, [.int tzra, .int tzrb, .int tzrc, .int tzrp, .int tzrq, .int tzrr, .int tzrs, .int tzrd]))] sz) := by
  refine Met.ofW (cc := cX0_product) (maxL := 6) (ret := (some .int)) (by decide +kernel) rfl ?_
  intro p e s m args below meth c s₁ B hml hv
  obtain ⟨rfl, hsz, hP, hK, hD0, hnw⟩ := hv
  have hx := B.exec
  have hb := B.bytes
  have hr := B.returns
  have hts := atoms_spec (ws := wsX0_product) B.pre
  have hown : s.vm.findClass RX0 = some m.cls := findClass_of_methodNamed B.named
  have hlocks := B.notSynchronized
  have hinX0 : ∀ w ∈ wsX00, w ∈ wsX0_product := by decide +kernel
  have hinX1 : ∀ w ∈ wsX10, w ∈ wsX0_product := by decide +kernel
  subst hsz
  have hD := hD0.self (sz := s.heap.size)
  generalize hAe : va_A [(th, .inr (0, [.ref tqa, .ref tqb, .ref tqc, .ref tzh, .int tdd, .int tsz])), (tqa, .inl (cyI, 40, .inl tfa)), (tqb, .inl (cyI, 40, .inl tfb)), (tqc, .inl (cyI, 40, .inl tfc)), (tzh, .inr (1, [.int tzra, .int tzrb, .int tzrc, .int tzrp, .int tzrq, .int tzrr, .int tzrs, .int tzrd]))] s.heap.size = A at hD ⊢
  have hA : ∀ q : Nat, s.heap.size ≤ q → A q := fun q h => by rw [← hAe]; exact Or.inr h
  have hS : va_S A s.heap s.heap [] := va_S.rf
  have hP : va_P (dC, dI) vwCl [(th, .inr (0, [.ref tqa, .ref tqb, .ref tqc, .ref tzh, .int tdd, .int tsz])), (tqa, .inl (cyI, 40, .inl tfa)), (tqb, .inl (cyI, 40, .inl tfb)), (tqc, .inl (cyI, 40, .inl tfc)), (tzh, .inr (1, [.int tzra, .int tzrb, .int tzrc, .int tzrp, .int tzrq, .int tzrr, .int tzrs, .int tzrd]))] s.heap := hP
  have hl := lv_entry ([.ref th, .int p0, .int p1]) (n := 6) (Nat.le_of_ble_eq_true rfl)
  rw [lg_entry_eq]
  generalize (lg_sl ([.ref th, .int p0, .int p1]) ++ List.replicate (6 - (lg_sl ([.ref th, .int p0, .int p1])).length) Slot.unset).toArray = ls at hl ⊢
  have hl : lv_has ls 6 [(0, .ref th), (1, .int p0), (2, .int p1)] := hl
  obtain ⟨QQ, hQQ⟩ : ∃ Q, Q = MQ below (va_Qi (fun r (_ : Unit) => r = rv) (fun _ t => mc_Post (dC, dI) A [(th, .inr (0, [.ref tqa, .ref tqb, .ref tqc, .ref tzh, .int tdd, .int tsz])), (tqa, .inl (cyI, 40, .inl tfa)), (tqb, .inl (cyI, 40, .inl tfb)), (tqc, .inl (cyI, 40, .inl tfc)), (tzh, .inr (1, [.int tzra', .int tzrb', .int tzrc', .int tzrp', .int tzrq', .int tzrr', .int tzrs', .int tzrd']))] t) A) ([Value.ref th, Value.int p0, Value.int p1] : List Value).toArray s 0 0 A := ⟨_, rfl⟩
  rw [← hQQ]
  have h := hf
  unfold f_X0_product at h
  refine lv_aload_n hx hb dX0_product_0 rfl (lv_at hl 0 rfl) ?_
  refine va_get (D := (dC, dI)) (ci := 0) (v := .ref tqa) (C := RX0) (T := TX0) (N := 6) hx hb hts hinX0 hown hK hP 0 rfl rfl 0 (by decide) (hts (.fieldLink RX0 9 "FormDesk$ClassList" "a" "[I") (by decide +kernel)) (fun _ h9 => h9) rfl dX0_product_1 ?_
  refine lv_iload_n hx hb dX0_product_4 rfl (lv_at hl 1 rfl) ?_
  obtain ⟨hn1, h⟩ := dm_gs h
  refine va_iald hx hb hK hP 1 0 rfl rfl hn1 dX0_product_5 ?_
  refine lv_aload_n hx hb dX0_product_6 rfl (lv_at hl 0 rfl) ?_
  refine va_get (D := (dC, dI)) (ci := 0) (v := .ref tqa) (C := RX0) (T := TX0) (N := 6) hx hb hts hinX0 hown hK hP 0 rfl rfl 0 (by decide) (hts (.fieldLink RX0 9 "FormDesk$ClassList" "a" "[I") (by decide +kernel)) (fun _ h9 => h9) rfl dX0_product_7 ?_
  refine lv_iload_n hx hb dX0_product_10 rfl (lv_at hl 2 rfl) ?_
  obtain ⟨hn2, h⟩ := dm_gs h
  refine va_iald hx hb hK hP 1 0 rfl rfl hn2 dX0_product_11 ?_
  obtain ⟨r3, hk4, h⟩ := dm_b1s h
  refine mc_i (wr := [(th, .inr (0, [.ref tqa, .ref tqb, .ref tqc, .ref tzh, .int tdd, .int tsz])), (tqa, .inl (cyI, 40, .inl tfa)), (tqb, .inl (cyI, 40, .inl tfb)), (tqc, .inl (cyI, 40, .inl tfc)), (tzh, .inr (1, [.int tzra, .int tzrb, .int tzrc, .int tzrp, .int tzrq, .int tzrr, .int tzrs, .int tzrd]))]) (va_runSN (As := [.int (tfa (p0).toNatClampNeg), .int (tfa (p1).toNatClampNeg)]) (rest := []) ⟨hx, hb, hml, hown, hts⟩ (c_X3_gcd l dC dI cyI cyJ cyC s.heap.size (tfa (p0).toNatClampNeg) (tfa (p1).toNatClampNeg) r3 hk4) ⟨va_cnB 2 hts gX0_product_X3_gcd_n39 rfl rfl rfl (hnw _ (by decide +kernel : Cond.methodLinkNest RX0 39 yX3_gcd "FormDesk" ∈ mc_nws)) (hts (.initialized RX3) (by decide +kernel)) (by decide +kernel) ⟨(Nat.le_of_ble_eq_true rfl), (Nat.le_of_ble_eq_true rfl)⟩, hts (.static yX3_gcd) (by decide +kernel), trivial⟩ (mc_preS hK (hP.sub (ws' := []) [] rfl) (hD.sub (ws' := []) [] (by decide) rfl) hnw) rfl rfl hl.1 rfl (lv_room (Nat.le_of_ble_eq_true rfl)) dX0_product_12 ⟨Nat.zero_le _, Nat.zero_le _⟩) hP hD hS hA [] [0, 1, 2, 3, 4] rfl rfl rfl (by decide) (fun H locs hP hD hS => ?_)
  have hP : va_P (dC, dI) vwCl [(th, .inr (0, [.ref tqa, .ref tqb, .ref tqc, .ref tzh, .int tdd, .int tsz])), (tqa, .inl (cyI, 40, .inl tfa)), (tqb, .inl (cyI, 40, .inl tfb)), (tqc, .inl (cyI, 40, .inl tfc)), (tzh, .inr (1, [.int tzra, .int tzrb, .int tzrc, .int tzrp, .int tzrq, .int tzrr, .int tzrs, .int tzrd]))] H := hP
  have hD : va_D A [(th, .inr (0, [.ref tqa, .ref tqb, .ref tqc, .ref tzh, .int tdd, .int tsz])), (tqa, .inl (cyI, 40, .inl tfa)), (tqb, .inl (cyI, 40, .inl tfb)), (tqc, .inl (cyI, 40, .inl tfc)), (tzh, .inr (1, [.int tzra, .int tzrb, .int tzrc, .int tzrp, .int tzrq, .int tzrr, .int tzrs, .int tzrd]))] := hD
  refine lv_aload_n hx hb dX0_product_15 rfl (lv_at hl 0 rfl) ?_
  refine va_get (D := (dC, dI)) (ci := 0) (v := .ref tqb) (C := RX0) (T := TX0) (N := 6) hx hb hts hinX0 hown hK hP 0 rfl rfl 1 (by decide) (hts (.fieldLink RX0 15 "FormDesk$ClassList" "b" "[I") (by decide +kernel)) (fun _ h9 => h9) rfl dX0_product_16 ?_
  refine lv_iload_n hx hb dX0_product_19 rfl (lv_at hl 1 rfl) ?_
  obtain ⟨hn5, h⟩ := dm_gs h
  refine va_iald hx hb hK hP 2 0 rfl rfl hn5 dX0_product_20 ?_
  refine lv_aload_n hx hb dX0_product_21 rfl (lv_at hl 0 rfl) ?_
  refine va_get (D := (dC, dI)) (ci := 0) (v := .ref tqb) (C := RX0) (T := TX0) (N := 6) hx hb hts hinX0 hown hK hP 0 rfl rfl 1 (by decide) (hts (.fieldLink RX0 15 "FormDesk$ClassList" "b" "[I") (by decide +kernel)) (fun _ h9 => h9) rfl dX0_product_22 ?_
  refine lv_iload_n hx hb dX0_product_25 rfl (lv_at hl 2 rfl) ?_
  obtain ⟨hn6, h⟩ := dm_gs h
  refine va_iald hx hb hK hP 2 0 rfl rfl hn6 dX0_product_26 ?_
  refine lv_iadd hx hb dX0_product_27 ?_
  refine lv_iconst (v := 2) hx hb dX0_product_28 (by decide) ?_
  refine lv_idiv hx hb dX0_product_29 (by decide) ?_
  obtain ⟨r7, hk8, h⟩ := dm_b1s h
  refine mc_i (wr := [(th, .inr (0, [.ref tqa, .ref tqb, .ref tqc, .ref tzh, .int tdd, .int tsz])), (tqa, .inl (cyI, 40, .inl tfa)), (tqb, .inl (cyI, 40, .inl tfb)), (tqc, .inl (cyI, 40, .inl tfc)), (tzh, .inr (1, [.int tzra, .int tzrb, .int tzrc, .int tzrp, .int tzrq, .int tzrr, .int tzrs, .int tzrd]))]) (va_runSN (As := [.int r3, .int (((tfb (p0).toNatClampNeg) + (tfb (p1).toNatClampNeg)) / (2 : Int32))]) (rest := []) ⟨hx, hb, hml, hown, hts⟩ (c_X3_gcd l dC dI cyI cyJ cyC H.size r3 (((tfb (p0).toNatClampNeg) + (tfb (p1).toNatClampNeg)) / (2 : Int32)) r7 hk8) ⟨va_cnB 2 hts gX0_product_X3_gcd_n39 rfl rfl rfl (hnw _ (by decide +kernel : Cond.methodLinkNest RX0 39 yX3_gcd "FormDesk" ∈ mc_nws)) (hts (.initialized RX3) (by decide +kernel)) (by decide +kernel) ⟨(Nat.le_of_ble_eq_true rfl), (Nat.le_of_ble_eq_true rfl)⟩, hts (.static yX3_gcd) (by decide +kernel), trivial⟩ (mc_preS hK (hP.sub (ws' := []) [] rfl) (hD.sub (ws' := []) [] (by decide) rfl) hnw) rfl rfl hl.1 rfl (lv_room (Nat.le_of_ble_eq_true rfl)) dX0_product_30 ⟨Nat.zero_le _, Nat.zero_le _⟩) hP hD hS hA [] [0, 1, 2, 3, 4] rfl rfl rfl (by decide) (fun H locs hP hD hS => ?_)
  have hP : va_P (dC, dI) vwCl [(th, .inr (0, [.ref tqa, .ref tqb, .ref tqc, .ref tzh, .int tdd, .int tsz])), (tqa, .inl (cyI, 40, .inl tfa)), (tqb, .inl (cyI, 40, .inl tfb)), (tqc, .inl (cyI, 40, .inl tfc)), (tzh, .inr (1, [.int tzra, .int tzrb, .int tzrc, .int tzrp, .int tzrq, .int tzrr, .int tzrs, .int tzrd]))] H := hP
  have hD : va_D A [(th, .inr (0, [.ref tqa, .ref tqb, .ref tqc, .ref tzh, .int tdd, .int tsz])), (tqa, .inl (cyI, 40, .inl tfa)), (tqb, .inl (cyI, 40, .inl tfb)), (tqc, .inl (cyI, 40, .inl tfc)), (tzh, .inr (1, [.int tzra, .int tzrb, .int tzrc, .int tzrp, .int tzrq, .int tzrr, .int tzrs, .int tzrd]))] := hD
  refine lv_istore_n (lv' := [(3, .int r7), (0, .ref th), (1, .int p0), (2, .int p1)]) hx hb dX0_product_33 rfl hl (by decide) rfl (fun ls hl => ?_)
  refine lv_aload_n hx hb dX0_product_34 rfl (lv_at hl 1 rfl) ?_
  refine va_get (D := (dC, dI)) (ci := 0) (v := .ref tqa) (C := RX0) (T := TX0) (N := 6) hx hb hts hinX0 hown hK hP 0 rfl rfl 0 (by decide) (hts (.fieldLink RX0 9 "FormDesk$ClassList" "a" "[I") (by decide +kernel)) (fun _ h9 => h9) rfl dX0_product_35 ?_
  refine lv_iload_n hx hb dX0_product_38 rfl (lv_at hl 2 rfl) ?_
  obtain ⟨hn9, h⟩ := dm_gs h
  refine va_iald hx hb hK hP 1 0 rfl rfl hn9 dX0_product_39 ?_
  refine lv_iload_n hx hb dX0_product_40 rfl (lv_at hl 0 rfl) ?_
  obtain ⟨hn10, h⟩ := dm_gs h
  refine lv_idiv hx hb dX0_product_41 hn10 ?_
  refine lv_aload_n hx hb dX0_product_42 rfl (lv_at hl 1 rfl) ?_
  refine va_get (D := (dC, dI)) (ci := 0) (v := .ref tqa) (C := RX0) (T := TX0) (N := 6) hx hb hts hinX0 hown hK hP 0 rfl rfl 0 (by decide) (hts (.fieldLink RX0 9 "FormDesk$ClassList" "a" "[I") (by decide +kernel)) (fun _ h9 => h9) rfl dX0_product_43 ?_
  refine lv_iload_n hx hb dX0_product_46 rfl (lv_at hl 3 rfl) ?_
  obtain ⟨hn11, h⟩ := dm_gs h
  refine va_iald hx hb hK hP 1 0 rfl rfl hn11 dX0_product_47 ?_
  refine lv_iload_n hx hb dX0_product_48 rfl (lv_at hl 0 rfl) ?_
  obtain ⟨hn12, h⟩ := dm_gs h
  refine lv_idiv hx hb dX0_product_49 hn12 ?_
  refine lv_imul hx hb dX0_product_50 ?_
  refine lv_topi (fun x13 ex13 => ?_)
  have h := dm_lu ex13 h
  refine lv_istore (lv' := [(4, .int x13), (3, .int r7), (0, .ref th), (1, .int p0), (2, .int p1)]) hx hb dX0_product_51 hl (by decide) rfl (fun ls hl => ?_)
  refine lv_aload_n hx hb dX0_product_53 rfl (lv_at hl 2 rfl) ?_
  refine lv_iload_n hx hb dX0_product_54 rfl (lv_at hl 3 rfl) ?_
  refine lv_iload_n hx hb dX0_product_55 rfl (lv_at hl 4 rfl) ?_
  refine lv_iload_n hx hb dX0_product_56 rfl (lv_at hl 1 rfl) ?_
  obtain ⟨r14, hk15, h⟩ := dm_b1s h
  refine mc_i (wr := []) (va_runV (As := [.int p0, .int p1, .int r7]) (rest := []) ⟨hx, hb, hml, hown, hts⟩ (c_X0_middleOfProduct l dC dI cyI cyJ cyC th tqa tqb tqc tzh H.size tfa tfb tfc tdd tsz tzra tzrb tzrc tzrp tzrq tzrr tzrs tzrd p0 p1 r7 r14 hk15) (cwV 3 hts gX0_product_X0_middleOfProduct rfl rfl rfl (by decide +kernel) ⟨(Nat.le_of_ble_eq_true rfl), (Nat.le_of_ble_eq_true rfl)⟩) (mc_preV hK (hP.sub (ws' := [(th, .inr (0, [.ref tqa, .ref tqb, .ref tqc, .ref tzh, .int tdd, .int tsz])), (tqa, .inl (cyI, 40, .inl tfa)), (tqb, .inl (cyI, 40, .inl tfb)), (tqc, .inl (cyI, 40, .inl tfc)), (tzh, .inr (1, [.int tzra, .int tzrb, .int tzrc, .int tzrp, .int tzrq, .int tzrr, .int tzrs, .int tzrd]))]) [0, 1, 2, 3, 4] rfl) (hD.sub (ws' := [(th, .inr (0, [.ref tqa, .ref tqb, .ref tqc, .ref tzh, .int tdd, .int tsz])), (tqa, .inl (cyI, 40, .inl tfa)), (tqb, .inl (cyI, 40, .inl tfb)), (tqc, .inl (cyI, 40, .inl tfc)), (tzh, .inr (1, [.int tzra, .int tzrb, .int tzrc, .int tzrp, .int tzrq, .int tzrr, .int tzrs, .int tzrd]))]) [0, 1, 2, 3, 4] (by decide) rfl) hnw rfl rfl) rfl rfl hl.1 rfl (lv_room (Nat.le_of_ble_eq_true rfl)) dX0_product_57 ⟨Nat.zero_le _, Nat.zero_le _⟩) hP hD hS hA [0, 1, 2, 3, 4] [] rfl rfl rfl (by decide) (fun H locs hP hD hS => ?_)
  have hP : va_P (dC, dI) vwCl [(th, .inr (0, [.ref tqa, .ref tqb, .ref tqc, .ref tzh, .int tdd, .int tsz])), (tqa, .inl (cyI, 40, .inl tfa)), (tqb, .inl (cyI, 40, .inl tfb)), (tqc, .inl (cyI, 40, .inl tfc)), (tzh, .inr (1, [.int tzra, .int tzrb, .int tzrc, .int tzrp, .int tzrq, .int tzrr, .int tzrs, .int tzrd]))] H := hP
  have hD : va_D A [(th, .inr (0, [.ref tqa, .ref tqb, .ref tqc, .ref tzh, .int tdd, .int tsz])), (tqa, .inl (cyI, 40, .inl tfa)), (tqb, .inl (cyI, 40, .inl tfb)), (tqc, .inl (cyI, 40, .inl tfc)), (tzh, .inr (1, [.int tzra, .int tzrb, .int tzrc, .int tzrp, .int tzrq, .int tzrr, .int tzrs, .int tzrd]))] := hD
  refine lv_istore (lv' := [(5, .int r14), (4, .int x13), (3, .int r7), (0, .ref th), (1, .int p0), (2, .int p1)]) hx hb dX0_product_60 hl (by decide) rfl (fun ls hl => ?_)
  refine lv_aload_n hx hb dX0_product_62 rfl (lv_at hl 3 rfl) ?_
  refine va_get (D := (dC, dI)) (ci := 0) (v := .ref tzh) (C := RX0) (T := TX0) (N := 6) hx hb hts hinX0 hown hK hP 0 rfl rfl 3 (by decide) (hts (.fieldLink RX0 24 "FormDesk$ClassList" "composed" "LFormDesk$Reduction;") (by decide +kernel)) (fun _ h9 => h9) rfl dX0_product_63 ?_
  refine lv_iload hx hb dX0_product_66 (lv_at hl 1 rfl) ?_
  refine lv_iload hx hb dX0_product_68 (lv_at hl 0 rfl) ?_
  refine lv_iload hx hb dX0_product_70 (lv_at hl 0 rfl) ?_
  refine lv_iload hx hb dX0_product_72 (lv_at hl 0 rfl) ?_
  refine lv_imul hx hb dX0_product_74 ?_
  refine lv_aload_n hx hb dX0_product_75 rfl (lv_at hl 3 rfl) ?_
  refine va_get (D := (dC, dI)) (ci := 0) (v := .int tdd) (C := RX0) (T := TX0) (N := 6) hx hb hts hinX0 hown hK hP 0 rfl rfl 4 (by decide) (hts (.fieldLink RX0 28 "FormDesk$ClassList" "discriminant" "I") (by decide +kernel)) (fun _ h9 => h9) rfl dX0_product_76 ?_
  refine lv_isub hx hb dX0_product_79 ?_
  refine lv_iconst (v := 4) hx hb dX0_product_80 (by decide) ?_
  refine lv_iload hx hb dX0_product_81 (lv_at hl 1 rfl) ?_
  refine lv_imul hx hb dX0_product_83 ?_
  obtain ⟨hn16, h⟩ := dm_gs h
  refine lv_idiv hx hb dX0_product_84 hn16 ?_
  obtain ⟨r17, w18, w19, w20, w21, w22, w23, w24, w25, hk26, h⟩ := dm_b9s h
  refine mc_i (wr := [(th, .inr (0, [.ref tqa, .ref tqb, .ref tqc, .ref tzh, .int tdd, .int tsz])), (tqa, .inl (cyI, 40, .inl tfa)), (tqb, .inl (cyI, 40, .inl tfb)), (tqc, .inl (cyI, 40, .inl tfc))]) (va_runV (As := [.int x13, .int r14, .int (((r14 * r14) - tdd) / ((4 : Int32) * x13))]) (rest := []) ⟨hx, hb, hml, hown, hts⟩ (c_X1_run l dC dI cyI cyJ cyC tzh H.size tzra tzrb tzrc tzrp tzrq tzrr tzrs tzrd x13 r14 (((r14 * r14) - tdd) / ((4 : Int32) * x13)) r17 w18 w19 w20 w21 w22 w23 w24 w25 hk26) (cwV 3 hts gX0_product_X1_run rfl rfl rfl (by decide +kernel) ⟨(Nat.le_of_ble_eq_true rfl), (Nat.le_of_ble_eq_true rfl)⟩) (mc_preV hK (hP.sub (ws' := [(tzh, .inr (1, [.int tzra, .int tzrb, .int tzrc, .int tzrp, .int tzrq, .int tzrr, .int tzrs, .int tzrd]))]) [4] rfl) (hD.sub (ws' := [(tzh, .inr (1, [.int tzra, .int tzrb, .int tzrc, .int tzrp, .int tzrq, .int tzrr, .int tzrs, .int tzrd]))]) [4] (by decide) rfl) hnw rfl rfl) rfl rfl hl.1 rfl (lv_room (Nat.le_of_ble_eq_true rfl)) dX0_product_85 ⟨Nat.zero_le _, Nat.zero_le _⟩) hP hD hS hA [4] [0, 1, 2, 3] rfl rfl rfl (by decide) (fun H locs hP hD hS => ?_)
  have hP : va_P (dC, dI) vwCl [(th, .inr (0, [.ref tqa, .ref tqb, .ref tqc, .ref tzh, .int tdd, .int tsz])), (tqa, .inl (cyI, 40, .inl tfa)), (tqb, .inl (cyI, 40, .inl tfb)), (tqc, .inl (cyI, 40, .inl tfc)), (tzh, .inr (1, [.int w18, .int w19, .int w20, .int w21, .int w22, .int w23, .int w24, .int w25]))] H := hP
  have hD : va_D A [(th, .inr (0, [.ref tqa, .ref tqb, .ref tqc, .ref tzh, .int tdd, .int tsz])), (tqa, .inl (cyI, 40, .inl tfa)), (tqb, .inl (cyI, 40, .inl tfb)), (tqc, .inl (cyI, 40, .inl tfc)), (tzh, .inr (1, [.int w18, .int w19, .int w20, .int w21, .int w22, .int w23, .int w24, .int w25]))] := hD
  refine lv_pop hx hb dX0_product_88 rfl ?_
  refine lv_aload_n hx hb dX0_product_89 rfl (lv_at hl 3 rfl) ?_
  refine lv_aload_n hx hb dX0_product_90 rfl (lv_at hl 3 rfl) ?_
  refine va_get (D := (dC, dI)) (ci := 0) (v := .ref tzh) (C := RX0) (T := TX0) (N := 6) hx hb hts hinX0 hown hK hP 0 rfl rfl 3 (by decide) (hts (.fieldLink RX0 24 "FormDesk$ClassList" "composed" "LFormDesk$Reduction;") (by decide +kernel)) (fun _ h9 => h9) rfl dX0_product_91 ?_
  refine va_getN (D := (dC, dI)) (ci := 1) (v := .int w18) (C := RX1) (T := TX1) (N := 8) hx hb hts hinX1 hown hK hP 4 rfl rfl 0 (by decide) (va_Nw.use rfl (hnw _ (by decide +kernel : Cond.fieldLinkNest RX0 50 "FormDesk$Reduction" "a" "I" "FormDesk" ∈ mc_nws))) (fun _ h9 => h9) rfl dX0_product_94 ?_
  refine lv_aload_n hx hb dX0_product_97 rfl (lv_at hl 3 rfl) ?_
  refine va_get (D := (dC, dI)) (ci := 0) (v := .ref tzh) (C := RX0) (T := TX0) (N := 6) hx hb hts hinX0 hown hK hP 0 rfl rfl 3 (by decide) (hts (.fieldLink RX0 24 "FormDesk$ClassList" "composed" "LFormDesk$Reduction;") (by decide +kernel)) (fun _ h9 => h9) rfl dX0_product_98 ?_
  refine va_getN (D := (dC, dI)) (ci := 1) (v := .int w19) (C := RX1) (T := TX1) (N := 8) hx hb hts hinX1 hown hK hP 4 rfl rfl 1 (by decide) (va_Nw.use rfl (hnw _ (by decide +kernel : Cond.fieldLinkNest RX0 52 "FormDesk$Reduction" "b" "I" "FormDesk" ∈ mc_nws))) (fun _ h9 => h9) rfl dX0_product_101 ?_
  obtain ⟨r27, hk28, h⟩ := dm_b1s h
  refine mc_i (wr := []) (va_runV (As := [.int w18, .int w19]) (rest := []) ⟨hx, hb, hml, hown, hts⟩ (c_X0_find l dC dI cyI cyJ cyC th tqa tqb tqc tzh H.size tfa tfb tfc tdd tsz w18 w19 w20 w21 w22 w23 w24 w25 w18 w19 r27 hk28) (cwV 2 hts gX0_product_X0_find rfl rfl rfl (by decide +kernel) ⟨(Nat.le_of_ble_eq_true rfl), (Nat.le_of_ble_eq_true rfl)⟩) (mc_preV hK (hP.sub (ws' := [(th, .inr (0, [.ref tqa, .ref tqb, .ref tqc, .ref tzh, .int tdd, .int tsz])), (tqa, .inl (cyI, 40, .inl tfa)), (tqb, .inl (cyI, 40, .inl tfb)), (tqc, .inl (cyI, 40, .inl tfc)), (tzh, .inr (1, [.int w18, .int w19, .int w20, .int w21, .int w22, .int w23, .int w24, .int w25]))]) [0, 1, 2, 3, 4] rfl) (hD.sub (ws' := [(th, .inr (0, [.ref tqa, .ref tqb, .ref tqc, .ref tzh, .int tdd, .int tsz])), (tqa, .inl (cyI, 40, .inl tfa)), (tqb, .inl (cyI, 40, .inl tfb)), (tqc, .inl (cyI, 40, .inl tfc)), (tzh, .inr (1, [.int w18, .int w19, .int w20, .int w21, .int w22, .int w23, .int w24, .int w25]))]) [0, 1, 2, 3, 4] (by decide) rfl) hnw rfl rfl) rfl rfl hl.1 rfl (lv_room (Nat.le_of_ble_eq_true rfl)) dX0_product_104 ⟨Nat.zero_le _, Nat.zero_le _⟩) hP hD hS hA [0, 1, 2, 3, 4] [] rfl rfl rfl (by decide) (fun H locs hP hD hS => ?_)
  have hP : va_P (dC, dI) vwCl [(th, .inr (0, [.ref tqa, .ref tqb, .ref tqc, .ref tzh, .int tdd, .int tsz])), (tqa, .inl (cyI, 40, .inl tfa)), (tqb, .inl (cyI, 40, .inl tfb)), (tqc, .inl (cyI, 40, .inl tfc)), (tzh, .inr (1, [.int w18, .int w19, .int w20, .int w21, .int w22, .int w23, .int w24, .int w25]))] H := hP
  have hD : va_D A [(th, .inr (0, [.ref tqa, .ref tqb, .ref tqc, .ref tzh, .int tdd, .int tsz])), (tqa, .inl (cyI, 40, .inl tfa)), (tqb, .inl (cyI, 40, .inl tfb)), (tqc, .inl (cyI, 40, .inl tfc)), (tzh, .inr (1, [.int w18, .int w19, .int w20, .int w21, .int w22, .int w23, .int w24, .int w25]))] := hD
  obtain ⟨hE0, hE1, hE2, hE3, hE4, hE5, hE6, hE7, hE8⟩ := dm_i9 h
  subst hE0; subst hE1; subst hE2; subst hE3; subst hE4; subst hE5; subst hE6; subst hE7; subst hE8
  rw [hQQ]
  have hP9 := hP.sub (ws' := [(th, .inr (0, [.ref tqa, .ref tqb, .ref tqc, .ref tzh, .int tdd, .int tsz])), (tqa, .inl (cyI, 40, .inl tfa)), (tqb, .inl (cyI, 40, .inl tfb)), (tqc, .inl (cyI, 40, .inl tfc)), (tzh, .inr (1, [.int w18, .int w19, .int w20, .int w21, .int w22, .int w23, .int w24, .int w25]))]) [0, 1, 2, 3, 4] rfl
  have hD9 := hD.sub (ws' := [(th, .inr (0, [.ref tqa, .ref tqb, .ref tqc, .ref tzh, .int tdd, .int tsz])), (tqa, .inl (cyI, 40, .inl tfa)), (tqb, .inl (cyI, 40, .inl tfb)), (tqc, .inl (cyI, 40, .inl tfc)), (tzh, .inr (1, [.int w18, .int w19, .int w20, .int w21, .int w22, .int w23, .int w24, .int w25]))]) [0, 1, 2, 3, 4] (by decide) rfl
  exact W.iret (v := r27) hx hb hr (fun t ht hW => ⟨⟨r27, (), rfl, rfl, by rw [ht]; exact hP9, hD9⟩, hS.F ht⟩) hS.2.2 dX0_product_107

def f_X0_opposite (tfa : Nat → Int32) (tfb : Nat → Int32) (tsz : Int32) (p0 : Int32) : Option (Int32) :=
  dm_g (¬ (p0 < 0 ∨ 40 ≤ (p0).toNatClampNeg)) <|
  dm_g (¬ (p0 < 0 ∨ 40 ≤ (p0).toNatClampNeg)) <|
  dm_b1 (f_X0_find tfa tfb tsz (tfa (p0).toNatClampNeg) (-(tfb (p0).toNatClampNeg))) fun r3 =>
  if r3 = (-1 : Int32) then
    some p0
  else
    some r3
set_option maxHeartbeats 4000000 in
set_option maxRecDepth 100000 in
theorem c_X0_opposite (l : Launch) (dC : Nat → ClassId) (dI : Nat → Nat → Nat) (cyI cyJ cyC : ClassId) (th tqa tqb tqc tzh : Nat) (sz : Nat) (tfa : Nat → Int32) (tfb : Nat → Int32) (tfc : Nat → Int32) (tdd : Int32) (tsz : Int32) (tzra : Int32) (tzrb : Int32) (tzrc : Int32) (tzrp : Int32) (tzrq : Int32) (tzrr : Int32) (tzrs : Int32) (tzrd : Int32) (p0 : Int32) (rv : Int32) (hf : f_X0_opposite tfa tfb tsz p0 = some rv) : Met l yX0_opposite wsX0_opposite { frames := 1, cells := 0, slots := 0, locals := 23 } (va_Pc [.ref th, .int p0] (mc_Pre (dC, dI) (mc_tys cyI cyJ cyC) [(th, .inr (0, [.ref tqa, .ref tqb, .ref tqc, .ref tzh, .int tdd, .int tsz])), (tqa, .inl (cyI, 40, .inl tfa)), (tqb, .inl (cyI, 40, .inl tfb)), (tqc, .inl (cyI, 40, .inl tfc)), (tzh, .inr (1, [.int tzra, .int tzrb, .int tzrc, .int tzrp, .int tzrq, .int tzrr, .int tzrs, .int tzrd]))] sz)) (va_Qi (fun r (_ : Unit) => r = rv) (fun _ t => mc_Post (dC, dI) (va_A [(th, .inr (0, [.ref tqa, .ref tqb, .ref tqc, .ref tzh, .int tdd, .int tsz])), (tqa, .inl (cyI, 40, .inl tfa)), (tqb, .inl (cyI, 40, .inl tfb)), (tqc, .inl (cyI, 40, .inl tfc)), (tzh, .inr (1, [.int tzra, .int tzrb, .int tzrc, .int tzrp, .int tzrq, .int tzrr, .int tzrs, .int tzrd]))] sz) [(th, .inr (0, [.ref tqa, .ref tqb, .ref tqc, .ref tzh, .int tdd, .int tsz])), (tqa, .inl (cyI, 40, .inl tfa)), (tqb, .inl (cyI, 40, .inl tfb)), (tqc, .inl (cyI, 40, .inl tfc)), (tzh, .inr (1, [.int tzra, .int tzrb, .int tzrc, .int tzrp, .int tzrq, .int tzrr, .int tzrs, .int tzrd]))] t) (va_A [(th, .inr (0, [.ref tqa, .ref tqb, .ref tqc, .ref tzh, .int tdd, .int tsz])), (tqa, .inl (cyI, 40, .inl tfa)), (tqb, .inl (cyI, 40, .inl tfb)), (tqc, .inl (cyI, 40, .inl tfc)), (tzh, .inr (1, [.int tzra, .int tzrb, .int tzrc, .int tzrp, .int tzrq, .int tzrr, .int tzrs, .int tzrd]))] sz)) 0 0 (va_A [(th, .inr (0, [.ref tqa, .ref tqb, .ref tqc, .ref tzh, .int tdd, .int tsz])), (tqa, .inl (cyI, 40, .inl tfa)), (tqb, .inl (cyI, 40, .inl tfb)), (tqc, .inl (cyI, 40, .inl tfc)), (tzh, .inr (1, [.int tzra, .int tzrb, .int tzrc, .int tzrp, .int tzrq, .int tzrr, .int tzrs, .int tzrd]))] sz) := by
  refine Met.ofW (cc := cX0_opposite) (maxL := 3) (ret := (some .int)) (by decide +kernel) rfl ?_
  intro p e s m args below meth c s₁ B hml hv
  obtain ⟨rfl, hsz, hP, hK, hD0, hnw⟩ := hv
  have hx := B.exec
  have hb := B.bytes
  have hr := B.returns
  have hts := atoms_spec (ws := wsX0_opposite) B.pre
  have hown : s.vm.findClass RX0 = some m.cls := findClass_of_methodNamed B.named
  have hlocks := B.notSynchronized
  have hinX0 : ∀ w ∈ wsX00, w ∈ wsX0_opposite := by decide +kernel
  subst hsz
  have hD := hD0.self (sz := s.heap.size)
  generalize hAe : va_A [(th, .inr (0, [.ref tqa, .ref tqb, .ref tqc, .ref tzh, .int tdd, .int tsz])), (tqa, .inl (cyI, 40, .inl tfa)), (tqb, .inl (cyI, 40, .inl tfb)), (tqc, .inl (cyI, 40, .inl tfc)), (tzh, .inr (1, [.int tzra, .int tzrb, .int tzrc, .int tzrp, .int tzrq, .int tzrr, .int tzrs, .int tzrd]))] s.heap.size = A at hD ⊢
  have hA : ∀ q : Nat, s.heap.size ≤ q → A q := fun q h => by rw [← hAe]; exact Or.inr h
  have hS : va_S A s.heap s.heap [] := va_S.rf
  have hP : va_P (dC, dI) vwCl [(th, .inr (0, [.ref tqa, .ref tqb, .ref tqc, .ref tzh, .int tdd, .int tsz])), (tqa, .inl (cyI, 40, .inl tfa)), (tqb, .inl (cyI, 40, .inl tfb)), (tqc, .inl (cyI, 40, .inl tfc)), (tzh, .inr (1, [.int tzra, .int tzrb, .int tzrc, .int tzrp, .int tzrq, .int tzrr, .int tzrs, .int tzrd]))] s.heap := hP
  have hl := lv_entry ([.ref th, .int p0]) (n := 3) (Nat.le_of_ble_eq_true rfl)
  rw [lg_entry_eq]
  generalize (lg_sl ([.ref th, .int p0]) ++ List.replicate (3 - (lg_sl ([.ref th, .int p0])).length) Slot.unset).toArray = ls at hl ⊢
  have hl : lv_has ls 3 [(0, .ref th), (1, .int p0)] := hl
  obtain ⟨QQ, hQQ⟩ : ∃ Q, Q = MQ below (va_Qi (fun r (_ : Unit) => r = rv) (fun _ t => mc_Post (dC, dI) A [(th, .inr (0, [.ref tqa, .ref tqb, .ref tqc, .ref tzh, .int tdd, .int tsz])), (tqa, .inl (cyI, 40, .inl tfa)), (tqb, .inl (cyI, 40, .inl tfb)), (tqc, .inl (cyI, 40, .inl tfc)), (tzh, .inr (1, [.int tzra, .int tzrb, .int tzrc, .int tzrp, .int tzrq, .int tzrr, .int tzrs, .int tzrd]))] t) A) ([Value.ref th, Value.int p0] : List Value).toArray s 0 0 A := ⟨_, rfl⟩
  rw [← hQQ]
  have h := hf
  unfold f_X0_opposite at h
  refine lv_aload_n hx hb dX0_opposite_0 rfl (lv_at hl 0 rfl) ?_
  refine lv_aload_n hx hb dX0_opposite_1 rfl (lv_at hl 0 rfl) ?_
  refine va_get (D := (dC, dI)) (ci := 0) (v := .ref tqa) (C := RX0) (T := TX0) (N := 6) hx hb hts hinX0 hown hK hP 0 rfl rfl 0 (by decide) (hts (.fieldLink RX0 9 "FormDesk$ClassList" "a" "[I") (by decide +kernel)) (fun _ h9 => h9) rfl dX0_opposite_2 ?_
  refine lv_iload_n hx hb dX0_opposite_5 rfl (lv_at hl 1 rfl) ?_
  obtain ⟨hn1, h⟩ := dm_gs h
  refine va_iald hx hb hK hP 1 0 rfl rfl hn1 dX0_opposite_6 ?_
  refine lv_aload_n hx hb dX0_opposite_7 rfl (lv_at hl 0 rfl) ?_
  refine va_get (D := (dC, dI)) (ci := 0) (v := .ref tqb) (C := RX0) (T := TX0) (N := 6) hx hb hts hinX0 hown hK hP 0 rfl rfl 1 (by decide) (hts (.fieldLink RX0 15 "FormDesk$ClassList" "b" "[I") (by decide +kernel)) (fun _ h9 => h9) rfl dX0_opposite_8 ?_
  refine lv_iload_n hx hb dX0_opposite_11 rfl (lv_at hl 1 rfl) ?_
  obtain ⟨hn2, h⟩ := dm_gs h
  refine va_iald hx hb hK hP 2 0 rfl rfl hn2 dX0_opposite_12 ?_
  refine lv_ineg hx hb dX0_opposite_13 ?_
  obtain ⟨r3, hk4, h⟩ := dm_b1s h
  refine mc_i (wr := []) (va_runV (As := [.int (tfa (p0).toNatClampNeg), .int (-(tfb (p0).toNatClampNeg))]) (rest := []) ⟨hx, hb, hml, hown, hts⟩ (c_X0_find l dC dI cyI cyJ cyC th tqa tqb tqc tzh s.heap.size tfa tfb tfc tdd tsz tzra tzrb tzrc tzrp tzrq tzrr tzrs tzrd (tfa (p0).toNatClampNeg) (-(tfb (p0).toNatClampNeg)) r3 hk4) (cwV 2 hts gX0_opposite_X0_find rfl rfl rfl (by decide +kernel) ⟨(Nat.le_of_ble_eq_true rfl), (Nat.le_of_ble_eq_true rfl)⟩) (mc_preV hK (hP.sub (ws' := [(th, .inr (0, [.ref tqa, .ref tqb, .ref tqc, .ref tzh, .int tdd, .int tsz])), (tqa, .inl (cyI, 40, .inl tfa)), (tqb, .inl (cyI, 40, .inl tfb)), (tqc, .inl (cyI, 40, .inl tfc)), (tzh, .inr (1, [.int tzra, .int tzrb, .int tzrc, .int tzrp, .int tzrq, .int tzrr, .int tzrs, .int tzrd]))]) [0, 1, 2, 3, 4] rfl) (hD.sub (ws' := [(th, .inr (0, [.ref tqa, .ref tqb, .ref tqc, .ref tzh, .int tdd, .int tsz])), (tqa, .inl (cyI, 40, .inl tfa)), (tqb, .inl (cyI, 40, .inl tfb)), (tqc, .inl (cyI, 40, .inl tfc)), (tzh, .inr (1, [.int tzra, .int tzrb, .int tzrc, .int tzrp, .int tzrq, .int tzrr, .int tzrs, .int tzrd]))]) [0, 1, 2, 3, 4] (by decide) rfl) hnw rfl rfl) rfl rfl hl.1 rfl (lv_room (Nat.le_of_ble_eq_true rfl)) dX0_opposite_14 ⟨Nat.zero_le _, Nat.zero_le _⟩) hP hD hS hA [0, 1, 2, 3, 4] [] rfl rfl rfl (by decide) (fun H locs hP hD hS => ?_)
  have hP : va_P (dC, dI) vwCl [(th, .inr (0, [.ref tqa, .ref tqb, .ref tqc, .ref tzh, .int tdd, .int tsz])), (tqa, .inl (cyI, 40, .inl tfa)), (tqb, .inl (cyI, 40, .inl tfb)), (tqc, .inl (cyI, 40, .inl tfc)), (tzh, .inr (1, [.int tzra, .int tzrb, .int tzrc, .int tzrp, .int tzrq, .int tzrr, .int tzrs, .int tzrd]))] H := hP
  have hD : va_D A [(th, .inr (0, [.ref tqa, .ref tqb, .ref tqc, .ref tzh, .int tdd, .int tsz])), (tqa, .inl (cyI, 40, .inl tfa)), (tqb, .inl (cyI, 40, .inl tfb)), (tqc, .inl (cyI, 40, .inl tfc)), (tzh, .inr (1, [.int tzra, .int tzrb, .int tzrc, .int tzrp, .int tzrq, .int tzrr, .int tzrs, .int tzrd]))] := hD
  refine lv_istore_n (lv' := [(2, .int r3), (0, .ref th), (1, .int p0)]) hx hb dX0_opposite_17 rfl hl (by decide) rfl (fun ls hl => ?_)
  refine lv_iload_n hx hb dX0_opposite_18 rfl (lv_at hl 0 rfl) ?_
  refine lv_iconst (v := -1) hx hb dX0_opposite_19 (by decide) ?_
  refine lv_icmp_ne (tgt := 27) hx hb dX0_opposite_20 (by decide) (fun hc5 => ?_) (fun hc5 => ?_)
  · have h := dm_f hc5 h
    refine lv_iload_n hx hb dX0_opposite_27 rfl (lv_at hl 0 rfl) ?_
    obtain hE0 := dm_i1 h
    subst hE0
    rw [hQQ]
    have hP9 := hP.sub (ws' := [(th, .inr (0, [.ref tqa, .ref tqb, .ref tqc, .ref tzh, .int tdd, .int tsz])), (tqa, .inl (cyI, 40, .inl tfa)), (tqb, .inl (cyI, 40, .inl tfb)), (tqc, .inl (cyI, 40, .inl tfc)), (tzh, .inr (1, [.int tzra, .int tzrb, .int tzrc, .int tzrp, .int tzrq, .int tzrr, .int tzrs, .int tzrd]))]) [0, 1, 2, 3, 4] rfl
    have hD9 := hD.sub (ws' := [(th, .inr (0, [.ref tqa, .ref tqb, .ref tqc, .ref tzh, .int tdd, .int tsz])), (tqa, .inl (cyI, 40, .inl tfa)), (tqb, .inl (cyI, 40, .inl tfb)), (tqc, .inl (cyI, 40, .inl tfc)), (tzh, .inr (1, [.int tzra, .int tzrb, .int tzrc, .int tzrp, .int tzrq, .int tzrr, .int tzrs, .int tzrd]))]) [0, 1, 2, 3, 4] (by decide) rfl
    exact W.iret (v := r3) hx hb hr (fun t ht hW => ⟨⟨r3, (), rfl, rfl, by rw [ht]; exact hP9, hD9⟩, hS.F ht⟩) hS.2.2 dX0_opposite_28
  · have h := dm_t hc5 h
    refine lv_iload_n hx hb dX0_opposite_23 rfl (lv_at hl 2 rfl) ?_
    refine lv_goto (tgt := 28) hx hb dX0_opposite_24 (by decide) ?_
    obtain hE0 := dm_i1 h
    subst hE0
    rw [hQQ]
    have hP9 := hP.sub (ws' := [(th, .inr (0, [.ref tqa, .ref tqb, .ref tqc, .ref tzh, .int tdd, .int tsz])), (tqa, .inl (cyI, 40, .inl tfa)), (tqb, .inl (cyI, 40, .inl tfb)), (tqc, .inl (cyI, 40, .inl tfc)), (tzh, .inr (1, [.int tzra, .int tzrb, .int tzrc, .int tzrp, .int tzrq, .int tzrr, .int tzrs, .int tzrd]))]) [0, 1, 2, 3, 4] rfl
    have hD9 := hD.sub (ws' := [(th, .inr (0, [.ref tqa, .ref tqb, .ref tqc, .ref tzh, .int tdd, .int tsz])), (tqa, .inl (cyI, 40, .inl tfa)), (tqb, .inl (cyI, 40, .inl tfb)), (tqc, .inl (cyI, 40, .inl tfc)), (tzh, .inr (1, [.int tzra, .int tzrb, .int tzrc, .int tzrp, .int tzrq, .int tzrr, .int tzrs, .int tzrd]))]) [0, 1, 2, 3, 4] (by decide) rfl
    exact W.iret (v := p0) hx hb hr (fun t ht hW => ⟨⟨p0, (), rfl, rfl, by rw [ht]; exact hP9, hD9⟩, hS.F ht⟩) hS.2.2 dX0_opposite_28

def f_X0_raised_L24 (tfa : Nat → Int32) (tfb : Nat → Int32) (tdd : Int32) (tsz : Int32) (p0 : Int32) (r2 : Int32)  : Nat → Int32 → Int32 → Int32 → Int32 → Int32 → Int32 → Int32 → Int32 → Int32 → Int32 → Option (Int32 × Int32 × Int32 × Int32 × Int32 × Int32 × Int32 × Int32 × Int32)
  | 0, _, _, _, _, _, _, _, _, _, _ => none
  | n + 1, v4, v5, v6, v7, v8, v9, v10, v11, v12, v13 =>
    if r2 ≤ v4 then
      some (v5, v6, v7, v8, v9, v10, v11, v12, v13)
    else
      dm_b9 (f_X0_product tfa tfb tdd tsz v5 p0) fun r15 w16 w17 w18 w19 w20 w21 w22 w23 =>
      dm_let (v4 + (1 : Int32)) fun x25 =>
      f_X0_raised_L24 tfa tfb tdd tsz p0 r2 n x25 r15 w16 w17 w18 w19 w20 w21 w22 w23
def f_X0_raised (tfa : Nat → Int32) (tfb : Nat → Int32) (tdd : Int32) (tsz : Int32) (tzra : Int32) (tzrb : Int32) (tzrc : Int32) (tzrp : Int32) (tzrq : Int32) (tzrr : Int32) (tzrs : Int32) (tzrd : Int32) (p0 : Int32) (p1 : Int32) : Option (Int32 × Int32 × Int32 × Int32 × Int32 × Int32 × Int32 × Int32 × Int32) :=
  if tsz = 0 then
    some ((-1 : Int32), tzra, tzrb, tzrc, tzrp, tzrq, tzrr, tzrs, tzrd)
  else
    dm_b1 (f_J9_floorMod_7cf53 p1 tsz) fun r2 =>
    f_X0_raised_L24 tfa tfb tdd tsz p0 r2 100000 (0 : Int32) (0 : Int32) tzra tzrb tzrc tzrp tzrq tzrr tzrs tzrd
set_option maxHeartbeats 4000000 in
set_option maxRecDepth 100000 in
theorem c_X0_raised (l : Launch) (dC : Nat → ClassId) (dI : Nat → Nat → Nat) (cyI cyJ cyC : ClassId) (th tqa tqb tqc tzh : Nat) (sz : Nat) (tfa : Nat → Int32) (tfb : Nat → Int32) (tfc : Nat → Int32) (tdd : Int32) (tsz : Int32) (tzra : Int32) (tzrb : Int32) (tzrc : Int32) (tzrp : Int32) (tzrq : Int32) (tzrr : Int32) (tzrs : Int32) (tzrd : Int32) (p0 : Int32) (p1 : Int32) (rv : Int32) (tzra' : Int32) (tzrb' : Int32) (tzrc' : Int32) (tzrp' : Int32) (tzrq' : Int32) (tzrr' : Int32) (tzrs' : Int32) (tzrd' : Int32) (hf : f_X0_raised tfa tfb tdd tsz tzra tzrb tzrc tzrp tzrq tzrr tzrs tzrd p0 p1 = some (rv, tzra', tzrb', tzrc', tzrp', tzrq', tzrr', tzrs', tzrd')) : Met l yX0_raised wsX0_raised { frames := 4, cells := 0, slots := 0, locals := 92 } (va_Pc [.ref th, .int p0, .int p1] (mc_Pre (dC, dI) (mc_tys cyI cyJ cyC) [(th, .inr (0, [.ref tqa, .ref tqb, .ref tqc, .ref tzh, .int tdd, .int tsz])), (tqa, .inl (cyI, 40, .inl tfa)), (tqb, .inl (cyI, 40, .inl tfb)), (tqc, .inl (cyI, 40, .inl tfc)), (tzh, .inr (1, [.int tzra, .int tzrb, .int tzrc, .int tzrp, .int tzrq, .int tzrr, .int tzrs, .int tzrd]))] sz)) (va_Qi (fun r (_ : Unit) => r = rv) (fun _ t => mc_Post (dC, dI) (va_A [(th, .inr (0, [.ref tqa, .ref tqb, .ref tqc, .ref tzh, .int tdd, .int tsz])), (tqa, .inl (cyI, 40, .inl tfa)), (tqb, .inl (cyI, 40, .inl tfb)), (tqc, .inl (cyI, 40, .inl tfc)), (tzh, .inr (1, [.int tzra, .int tzrb, .int tzrc, .int tzrp, .int tzrq, .int tzrr, .int tzrs, .int tzrd]))] sz) [(th, .inr (0, [.ref tqa, .ref tqb, .ref tqc, .ref tzh, .int tdd, .int tsz])), (tqa, .inl (cyI, 40, .inl tfa)), (tqb, .inl (cyI, 40, .inl tfb)), (tqc, .inl (cyI, 40, .inl tfc)), (tzh, .inr (1, [.int tzra', .int tzrb', .int tzrc', .int tzrp', .int tzrq', .int tzrr', .int tzrs', .int tzrd']))] t) (va_A [(th, .inr (0, [.ref tqa, .ref tqb, .ref tqc, .ref tzh, .int tdd, .int tsz])), (tqa, .inl (cyI, 40, .inl tfa)), (tqb, .inl (cyI, 40, .inl tfb)), (tqc, .inl (cyI, 40, .inl tfc)), (tzh, .inr (1, [.int tzra, .int tzrb, .int tzrc, .int tzrp, .int tzrq, .int tzrr, .int tzrs, .int tzrd]))] sz)) 0 0 (va_A [(th, .inr (0, [.ref tqa, .ref tqb, .ref tqc, .ref tzh, .int tdd, .int tsz])), (tqa, .inl (cyI, 40, .inl tfa)), (tqb, .inl (cyI, 40, .inl tfb)), (tqc, .inl (cyI, 40, .inl tfc)), (tzh, .inr (1, [.int tzra, .int tzrb, .int tzrc, .int tzrp, .int tzrq, .int tzrr, .int tzrs, .int tzrd]))] sz) := by
  refine Met.ofW (cc := cX0_raised) (maxL := 6) (ret := (some .int)) (by decide +kernel) rfl ?_
  intro p e s m args below meth c s₁ B hml hv
  obtain ⟨rfl, hsz, hP, hK, hD0, hnw⟩ := hv
  have hx := B.exec
  have hb := B.bytes
  have hr := B.returns
  have hts := atoms_spec (ws := wsX0_raised) B.pre
  have hown : s.vm.findClass RX0 = some m.cls := findClass_of_methodNamed B.named
  have hlocks := B.notSynchronized
  have hinX0 : ∀ w ∈ wsX00, w ∈ wsX0_raised := by decide +kernel
  subst hsz
  have hD := hD0.self (sz := s.heap.size)
  generalize hAe : va_A [(th, .inr (0, [.ref tqa, .ref tqb, .ref tqc, .ref tzh, .int tdd, .int tsz])), (tqa, .inl (cyI, 40, .inl tfa)), (tqb, .inl (cyI, 40, .inl tfb)), (tqc, .inl (cyI, 40, .inl tfc)), (tzh, .inr (1, [.int tzra, .int tzrb, .int tzrc, .int tzrp, .int tzrq, .int tzrr, .int tzrs, .int tzrd]))] s.heap.size = A at hD ⊢
  have hA : ∀ q : Nat, s.heap.size ≤ q → A q := fun q h => by rw [← hAe]; exact Or.inr h
  have hS : va_S A s.heap s.heap [] := va_S.rf
  have hP : va_P (dC, dI) vwCl [(th, .inr (0, [.ref tqa, .ref tqb, .ref tqc, .ref tzh, .int tdd, .int tsz])), (tqa, .inl (cyI, 40, .inl tfa)), (tqb, .inl (cyI, 40, .inl tfb)), (tqc, .inl (cyI, 40, .inl tfc)), (tzh, .inr (1, [.int tzra, .int tzrb, .int tzrc, .int tzrp, .int tzrq, .int tzrr, .int tzrs, .int tzrd]))] s.heap := hP
  have hl := lv_entry ([.ref th, .int p0, .int p1]) (n := 6) (Nat.le_of_ble_eq_true rfl)
  rw [lg_entry_eq]
  generalize (lg_sl ([.ref th, .int p0, .int p1]) ++ List.replicate (6 - (lg_sl ([.ref th, .int p0, .int p1])).length) Slot.unset).toArray = ls at hl ⊢
  have hl : lv_has ls 6 [(0, .ref th), (1, .int p0), (2, .int p1)] := hl
  obtain ⟨QQ, hQQ⟩ : ∃ Q, Q = MQ below (va_Qi (fun r (_ : Unit) => r = rv) (fun _ t => mc_Post (dC, dI) A [(th, .inr (0, [.ref tqa, .ref tqb, .ref tqc, .ref tzh, .int tdd, .int tsz])), (tqa, .inl (cyI, 40, .inl tfa)), (tqb, .inl (cyI, 40, .inl tfb)), (tqc, .inl (cyI, 40, .inl tfc)), (tzh, .inr (1, [.int tzra', .int tzrb', .int tzrc', .int tzrp', .int tzrq', .int tzrr', .int tzrs', .int tzrd']))] t) A) ([Value.ref th, Value.int p0, Value.int p1] : List Value).toArray s 0 0 A := ⟨_, rfl⟩
  rw [← hQQ]
  have h := hf
  unfold f_X0_raised at h
  refine lv_aload_n hx hb dX0_raised_0 rfl (lv_at hl 0 rfl) ?_
  refine va_get (D := (dC, dI)) (ci := 0) (v := .int tsz) (C := RX0) (T := TX0) (N := 6) hx hb hts hinX0 hown hK hP 0 rfl rfl 5 (by decide) (hts (.fieldLink RX0 32 "FormDesk$ClassList" "size" "I") (by decide +kernel)) (fun _ h9 => h9) rfl dX0_raised_1 ?_
  refine lv_if_ne (tgt := 9) hx hb dX0_raised_4 (by decide) (fun hc1 => ?_) (fun hc1 => ?_)
  · have h := dm_f hc1 h
    refine lv_iload_n hx hb dX0_raised_9 rfl (lv_at hl 2 rfl) ?_
    refine lv_aload_n hx hb dX0_raised_10 rfl (lv_at hl 0 rfl) ?_
    refine va_get (D := (dC, dI)) (ci := 0) (v := .int tsz) (C := RX0) (T := TX0) (N := 6) hx hb hts hinX0 hown hK hP 0 rfl rfl 5 (by decide) (hts (.fieldLink RX0 32 "FormDesk$ClassList" "size" "I") (by decide +kernel)) (fun _ h9 => h9) rfl dX0_raised_11 ?_
    obtain ⟨r2, hk3, h⟩ := dm_b1s h
    refine mc_i (wr := [(th, .inr (0, [.ref tqa, .ref tqb, .ref tqc, .ref tzh, .int tdd, .int tsz])), (tqa, .inl (cyI, 40, .inl tfa)), (tqb, .inl (cyI, 40, .inl tfb)), (tqc, .inl (cyI, 40, .inl tfc)), (tzh, .inr (1, [.int tzra, .int tzrb, .int tzrc, .int tzrp, .int tzrq, .int tzrr, .int tzrs, .int tzrd]))]) (va_runS (As := [.int p1, .int tsz]) (rest := []) ⟨hx, hb, hml, hown, hts⟩ (c_J9_floorMod_7cf53 l dC dI cyI cyJ cyC s.heap.size p1 tsz r2 hk3) (va_cwS 2 hts gX0_raised_J9_floorMod_7cf53 rfl rfl rfl (by decide +kernel) ⟨(Nat.le_of_ble_eq_true rfl), (Nat.le_of_ble_eq_true rfl)⟩) (mc_preS hK (hP.sub (ws' := []) [] rfl) (hD.sub (ws' := []) [] (by decide) rfl) hnw) rfl rfl hl.1 rfl (lv_room (Nat.le_of_ble_eq_true rfl)) dX0_raised_14 ⟨Nat.zero_le _, Nat.zero_le _⟩) hP hD hS hA [] [0, 1, 2, 3, 4] rfl rfl rfl (by decide) (fun H locs hP hD hS => ?_)
    have hP : va_P (dC, dI) vwCl [(th, .inr (0, [.ref tqa, .ref tqb, .ref tqc, .ref tzh, .int tdd, .int tsz])), (tqa, .inl (cyI, 40, .inl tfa)), (tqb, .inl (cyI, 40, .inl tfb)), (tqc, .inl (cyI, 40, .inl tfc)), (tzh, .inr (1, [.int tzra, .int tzrb, .int tzrc, .int tzrp, .int tzrq, .int tzrr, .int tzrs, .int tzrd]))] H := hP
    have hD : va_D A [(th, .inr (0, [.ref tqa, .ref tqb, .ref tqc, .ref tzh, .int tdd, .int tsz])), (tqa, .inl (cyI, 40, .inl tfa)), (tqb, .inl (cyI, 40, .inl tfb)), (tqc, .inl (cyI, 40, .inl tfc)), (tzh, .inr (1, [.int tzra, .int tzrb, .int tzrc, .int tzrp, .int tzrq, .int tzrr, .int tzrs, .int tzrd]))] := hD
    refine lv_istore_n (lv' := [(3, .int r2), (0, .ref th), (1, .int p0), (2, .int p1)]) hx hb dX0_raised_17 rfl hl (by decide) rfl (fun ls hl => ?_)
    refine lv_iconst (v := 0) hx hb dX0_raised_18 (by decide) ?_
    refine lv_istore (lv' := [(4, .int (0 : Int32)), (3, .int r2), (0, .ref th), (1, .int p0), (2, .int p1)]) hx hb dX0_raised_19 hl (by decide) rfl (fun ls hl => ?_)
    refine lv_iconst (v := 0) hx hb dX0_raised_21 (by decide) ?_
    refine lv_istore (lv' := [(5, .int (0 : Int32)), (4, .int (0 : Int32)), (3, .int r2), (0, .ref th), (1, .int p0), (2, .int p1)]) hx hb dX0_raised_22 hl (by decide) rfl (fun ls hl => ?_)
    have L24 : ∀ (n24 : Nat) (v4 : Int32) (v5 : Int32) (v6 : Int32) (v7 : Int32) (v8 : Int32) (v9 : Int32) (v10 : Int32) (v11 : Int32) (v12 : Int32) (v13 : Int32) (H : Heap) (locs : List Loc) (ls : Array Slot), f_X0_raised_L24 tfa tfb tdd tsz p0 r2 n24 v4 v5 v6 v7 v8 v9 v10 v11 v12 v13 = some (rv, tzra', tzrb', tzrc', tzrp', tzrq', tzrr', tzrs', tzrd') → va_P (dC, dI) vwCl [(th, .inr (0, [.ref tqa, .ref tqb, .ref tqc, .ref tzh, .int tdd, .int tsz])), (tqa, .inl (cyI, 40, .inl tfa)), (tqb, .inl (cyI, 40, .inl tfb)), (tqc, .inl (cyI, 40, .inl tfc)), (tzh, .inr (1, [.int v6, .int v7, .int v8, .int v9, .int v10, .int v11, .int v12, .int v13]))] H → va_D A [(th, .inr (0, [.ref tqa, .ref tqb, .ref tqc, .ref tzh, .int tdd, .int tsz])), (tqa, .inl (cyI, 40, .inl tfa)), (tqb, .inl (cyI, 40, .inl tfb)), (tqc, .inl (cyI, 40, .inl tfc)), (tzh, .inr (1, [.int v6, .int v7, .int v8, .int v9, .int v10, .int v11, .int v12, .int v13]))] → va_S A s.heap H locs → lv_has ls 6 [(5, .int v4), (4, .int v5), (3, .int r2), (0, .ref th), (1, .int p0), (2, .int p1)] → W p l e (headSpec wsX0_raised { frames := 4, cells := 0, slots := 0, locals := 92 }).room s m ([Value.ref th, Value.int p0, Value.int p1] : List Value).toArray below meth c H locs 0 0 QQ (F0 m 24 ls []) := by
      intro n24
      induction n24 with
      | zero =>
        intro v4 v5 v6 v7 v8 v9 v10 v11 v12 v13 H locs ls h
        exact nomatch (show (none : Option (Int32 × Int32 × Int32 × Int32 × Int32 × Int32 × Int32 × Int32 × Int32)) = some _ from h)
      | succ n24 ih24 =>
        intro v4 v5 v6 v7 v8 v9 v10 v11 v12 v13 H locs ls h hP hD hS hl
        rw [f_X0_raised_L24] at h
        refine lv_iload hx hb dX0_raised_24 (lv_at hl 0 rfl) ?_
        refine lv_iload_n hx hb dX0_raised_26 rfl (lv_at hl 2 rfl) ?_
        refine lv_icmp_ge (tgt := 45) hx hb dX0_raised_27 (by decide) (fun hc14 => ?_) (fun hc14 => ?_)
        · have h := dm_t hc14 h
          refine lv_iload hx hb dX0_raised_45 (lv_at hl 1 rfl) ?_
          obtain ⟨hE0, hE1, hE2, hE3, hE4, hE5, hE6, hE7, hE8⟩ := dm_i9 h
          subst hE0; subst hE1; subst hE2; subst hE3; subst hE4; subst hE5; subst hE6; subst hE7; subst hE8
          rw [hQQ]
          have hP9 := hP.sub (ws' := [(th, .inr (0, [.ref tqa, .ref tqb, .ref tqc, .ref tzh, .int tdd, .int tsz])), (tqa, .inl (cyI, 40, .inl tfa)), (tqb, .inl (cyI, 40, .inl tfb)), (tqc, .inl (cyI, 40, .inl tfc)), (tzh, .inr (1, [.int v6, .int v7, .int v8, .int v9, .int v10, .int v11, .int v12, .int v13]))]) [0, 1, 2, 3, 4] rfl
          have hD9 := hD.sub (ws' := [(th, .inr (0, [.ref tqa, .ref tqb, .ref tqc, .ref tzh, .int tdd, .int tsz])), (tqa, .inl (cyI, 40, .inl tfa)), (tqb, .inl (cyI, 40, .inl tfb)), (tqc, .inl (cyI, 40, .inl tfc)), (tzh, .inr (1, [.int v6, .int v7, .int v8, .int v9, .int v10, .int v11, .int v12, .int v13]))]) [0, 1, 2, 3, 4] (by decide) rfl
          exact W.iret (v := v5) hx hb hr (fun t ht hW => ⟨⟨v5, (), rfl, rfl, by rw [ht]; exact hP9, hD9⟩, hS.F ht⟩) hS.2.2 dX0_raised_47
        · have h := dm_f hc14 h
          refine lv_aload_n hx hb dX0_raised_30 rfl (lv_at hl 3 rfl) ?_
          refine lv_iload hx hb dX0_raised_31 (lv_at hl 1 rfl) ?_
          refine lv_iload_n hx hb dX0_raised_33 rfl (lv_at hl 4 rfl) ?_
          obtain ⟨r15, w16, w17, w18, w19, w20, w21, w22, w23, hk24, h⟩ := dm_b9s h
          refine mc_i (wr := []) (va_runV (As := [.int v5, .int p0]) (rest := []) ⟨hx, hb, hml, hown, hts⟩ (c_X0_product l dC dI cyI cyJ cyC th tqa tqb tqc tzh H.size tfa tfb tfc tdd tsz v6 v7 v8 v9 v10 v11 v12 v13 v5 p0 r15 w16 w17 w18 w19 w20 w21 w22 w23 hk24) (cwV 2 hts gX0_raised_X0_product rfl rfl rfl (by decide +kernel) ⟨(Nat.le_of_ble_eq_true rfl), (Nat.le_of_ble_eq_true rfl)⟩) (mc_preV hK (hP.sub (ws' := [(th, .inr (0, [.ref tqa, .ref tqb, .ref tqc, .ref tzh, .int tdd, .int tsz])), (tqa, .inl (cyI, 40, .inl tfa)), (tqb, .inl (cyI, 40, .inl tfb)), (tqc, .inl (cyI, 40, .inl tfc)), (tzh, .inr (1, [.int v6, .int v7, .int v8, .int v9, .int v10, .int v11, .int v12, .int v13]))]) [0, 1, 2, 3, 4] rfl) (hD.sub (ws' := [(th, .inr (0, [.ref tqa, .ref tqb, .ref tqc, .ref tzh, .int tdd, .int tsz])), (tqa, .inl (cyI, 40, .inl tfa)), (tqb, .inl (cyI, 40, .inl tfb)), (tqc, .inl (cyI, 40, .inl tfc)), (tzh, .inr (1, [.int v6, .int v7, .int v8, .int v9, .int v10, .int v11, .int v12, .int v13]))]) [0, 1, 2, 3, 4] (by decide) rfl) hnw rfl rfl) rfl rfl hl.1 rfl (lv_room (Nat.le_of_ble_eq_true rfl)) dX0_raised_34 ⟨Nat.zero_le _, Nat.zero_le _⟩) hP hD hS hA [0, 1, 2, 3, 4] [] rfl rfl rfl (by decide) (fun H locs hP hD hS => ?_)
          have hP : va_P (dC, dI) vwCl [(th, .inr (0, [.ref tqa, .ref tqb, .ref tqc, .ref tzh, .int tdd, .int tsz])), (tqa, .inl (cyI, 40, .inl tfa)), (tqb, .inl (cyI, 40, .inl tfb)), (tqc, .inl (cyI, 40, .inl tfc)), (tzh, .inr (1, [.int w16, .int w17, .int w18, .int w19, .int w20, .int w21, .int w22, .int w23]))] H := hP
          have hD : va_D A [(th, .inr (0, [.ref tqa, .ref tqb, .ref tqc, .ref tzh, .int tdd, .int tsz])), (tqa, .inl (cyI, 40, .inl tfa)), (tqb, .inl (cyI, 40, .inl tfb)), (tqc, .inl (cyI, 40, .inl tfc)), (tzh, .inr (1, [.int w16, .int w17, .int w18, .int w19, .int w20, .int w21, .int w22, .int w23]))] := hD
          refine lv_istore (lv' := [(4, .int r15), (5, .int v4), (3, .int r2), (0, .ref th), (1, .int p0), (2, .int p1)]) hx hb dX0_raised_37 hl (by decide) rfl (fun ls hl => ?_)
          obtain ⟨x25, ex25⟩ : ∃ y : Int32, y = (v4 + (1 : Int32)) := ⟨_, rfl⟩
          have h := dm_lu ex25 h
          refine lv_iinc (v := x25) (lv' := [(5, .int x25), (4, .int r15), (3, .int r2), (0, .ref th), (1, .int p0), (2, .int p1)]) hx hb dX0_raised_39 hl (k := 1) rfl (by rw [ex25]; rfl) (by decide) rfl (fun ls hl => ?_)
          refine lv_goto (tgt := 24) hx hb dX0_raised_42 (by decide) ?_
          exact ih24 x25 r15 w16 w17 w18 w19 w20 w21 w22 w23 H _ ls h (hP.sub [0, 1, 2, 3, 4] rfl) (hD.sub [0, 1, 2, 3, 4] (by decide) rfl) hS (lv_sub hl [0, 1, 2, 3, 4, 5] rfl)
    exact L24 100000 (0 : Int32) (0 : Int32) tzra tzrb tzrc tzrp tzrq tzrr tzrs tzrd H _ ls h hP hD hS hl
  · have h := dm_t hc1 h
    refine lv_iconst (v := -1) hx hb dX0_raised_7 (by decide) ?_
    obtain ⟨hE0, hE1, hE2, hE3, hE4, hE5, hE6, hE7, hE8⟩ := dm_i9 h
    subst hE0; subst hE1; subst hE2; subst hE3; subst hE4; subst hE5; subst hE6; subst hE7; subst hE8
    rw [hQQ]
    have hP9 := hP.sub (ws' := [(th, .inr (0, [.ref tqa, .ref tqb, .ref tqc, .ref tzh, .int tdd, .int tsz])), (tqa, .inl (cyI, 40, .inl tfa)), (tqb, .inl (cyI, 40, .inl tfb)), (tqc, .inl (cyI, 40, .inl tfc)), (tzh, .inr (1, [.int tzra, .int tzrb, .int tzrc, .int tzrp, .int tzrq, .int tzrr, .int tzrs, .int tzrd]))]) [0, 1, 2, 3, 4] rfl
    have hD9 := hD.sub (ws' := [(th, .inr (0, [.ref tqa, .ref tqb, .ref tqc, .ref tzh, .int tdd, .int tsz])), (tqa, .inl (cyI, 40, .inl tfa)), (tqb, .inl (cyI, 40, .inl tfb)), (tqc, .inl (cyI, 40, .inl tfc)), (tzh, .inr (1, [.int tzra, .int tzrb, .int tzrc, .int tzrp, .int tzrq, .int tzrr, .int tzrs, .int tzrd]))]) [0, 1, 2, 3, 4] (by decide) rfl
    exact W.iret (v := (-1 : Int32)) hx hb hr (fun t ht hW => ⟨⟨(-1 : Int32), (), rfl, rfl, by rw [ht]; exact hP9, hD9⟩, hS.F ht⟩) hS.2.2 dX0_raised_8

def f_X0_orderOf_L4 (tfa : Nat → Int32) (tfb : Nat → Int32) (tdd : Int32) (tsz : Int32) (p0 : Int32)  : Nat → Int32 → Int32 → Int32 → Int32 → Int32 → Int32 → Int32 → Int32 → Int32 → Int32 → Option (Int32 × Int32 × Int32 × Int32 × Int32 × Int32 × Int32 × Int32 × Int32)
  | 0, _, _, _, _, _, _, _, _, _, _ => none
  | n + 1, v1, v2, v3, v4, v5, v6, v7, v8, v9, v10 =>
    if v1 = 0 then
      some (v2, v3, v4, v5, v6, v7, v8, v9, v10)
    else
      if tsz ≤ v2 then
        some (v2, v3, v4, v5, v6, v7, v8, v9, v10)
      else
        dm_b9 (f_X0_product tfa tfb tdd tsz v1 p0) fun r13 w14 w15 w16 w17 w18 w19 w20 w21 =>
        dm_let (v2 + (1 : Int32)) fun x23 =>
        f_X0_orderOf_L4 tfa tfb tdd tsz p0 n r13 x23 w14 w15 w16 w17 w18 w19 w20 w21
def f_X0_orderOf (tfa : Nat → Int32) (tfb : Nat → Int32) (tdd : Int32) (tsz : Int32) (tzra : Int32) (tzrb : Int32) (tzrc : Int32) (tzrp : Int32) (tzrq : Int32) (tzrr : Int32) (tzrs : Int32) (tzrd : Int32) (p0 : Int32) : Option (Int32 × Int32 × Int32 × Int32 × Int32 × Int32 × Int32 × Int32 × Int32) :=
  f_X0_orderOf_L4 tfa tfb tdd tsz p0 100000 p0 (1 : Int32) tzra tzrb tzrc tzrp tzrq tzrr tzrs tzrd
set_option maxHeartbeats 4000000 in
set_option maxRecDepth 100000 in
theorem c_X0_orderOf (l : Launch) (dC : Nat → ClassId) (dI : Nat → Nat → Nat) (cyI cyJ cyC : ClassId) (th tqa tqb tqc tzh : Nat) (sz : Nat) (tfa : Nat → Int32) (tfb : Nat → Int32) (tfc : Nat → Int32) (tdd : Int32) (tsz : Int32) (tzra : Int32) (tzrb : Int32) (tzrc : Int32) (tzrp : Int32) (tzrq : Int32) (tzrr : Int32) (tzrs : Int32) (tzrd : Int32) (p0 : Int32) (rv : Int32) (tzra' : Int32) (tzrb' : Int32) (tzrc' : Int32) (tzrp' : Int32) (tzrq' : Int32) (tzrr' : Int32) (tzrs' : Int32) (tzrd' : Int32) (hf : f_X0_orderOf tfa tfb tdd tsz tzra tzrb tzrc tzrp tzrq tzrr tzrs tzrd p0 = some (rv, tzra', tzrb', tzrc', tzrp', tzrq', tzrr', tzrs', tzrd')) : Met l yX0_orderOf wsX0_orderOf { frames := 4, cells := 0, slots := 0, locals := 92 } (va_Pc [.ref th, .int p0] (mc_Pre (dC, dI) (mc_tys cyI cyJ cyC) [(th, .inr (0, [.ref tqa, .ref tqb, .ref tqc, .ref tzh, .int tdd, .int tsz])), (tqa, .inl (cyI, 40, .inl tfa)), (tqb, .inl (cyI, 40, .inl tfb)), (tqc, .inl (cyI, 40, .inl tfc)), (tzh, .inr (1, [.int tzra, .int tzrb, .int tzrc, .int tzrp, .int tzrq, .int tzrr, .int tzrs, .int tzrd]))] sz)) (va_Qi (fun r (_ : Unit) => r = rv) (fun _ t => mc_Post (dC, dI) (va_A [(th, .inr (0, [.ref tqa, .ref tqb, .ref tqc, .ref tzh, .int tdd, .int tsz])), (tqa, .inl (cyI, 40, .inl tfa)), (tqb, .inl (cyI, 40, .inl tfb)), (tqc, .inl (cyI, 40, .inl tfc)), (tzh, .inr (1, [.int tzra, .int tzrb, .int tzrc, .int tzrp, .int tzrq, .int tzrr, .int tzrs, .int tzrd]))] sz) [(th, .inr (0, [.ref tqa, .ref tqb, .ref tqc, .ref tzh, .int tdd, .int tsz])), (tqa, .inl (cyI, 40, .inl tfa)), (tqb, .inl (cyI, 40, .inl tfb)), (tqc, .inl (cyI, 40, .inl tfc)), (tzh, .inr (1, [.int tzra', .int tzrb', .int tzrc', .int tzrp', .int tzrq', .int tzrr', .int tzrs', .int tzrd']))] t) (va_A [(th, .inr (0, [.ref tqa, .ref tqb, .ref tqc, .ref tzh, .int tdd, .int tsz])), (tqa, .inl (cyI, 40, .inl tfa)), (tqb, .inl (cyI, 40, .inl tfb)), (tqc, .inl (cyI, 40, .inl tfc)), (tzh, .inr (1, [.int tzra, .int tzrb, .int tzrc, .int tzrp, .int tzrq, .int tzrr, .int tzrs, .int tzrd]))] sz)) 0 0 (va_A [(th, .inr (0, [.ref tqa, .ref tqb, .ref tqc, .ref tzh, .int tdd, .int tsz])), (tqa, .inl (cyI, 40, .inl tfa)), (tqb, .inl (cyI, 40, .inl tfb)), (tqc, .inl (cyI, 40, .inl tfc)), (tzh, .inr (1, [.int tzra, .int tzrb, .int tzrc, .int tzrp, .int tzrq, .int tzrr, .int tzrs, .int tzrd]))] sz) := by
  refine Met.ofW (cc := cX0_orderOf) (maxL := 4) (ret := (some .int)) (by decide +kernel) rfl ?_
  intro p e s m args below meth c s₁ B hml hv
  obtain ⟨rfl, hsz, hP, hK, hD0, hnw⟩ := hv
  have hx := B.exec
  have hb := B.bytes
  have hr := B.returns
  have hts := atoms_spec (ws := wsX0_orderOf) B.pre
  have hown : s.vm.findClass RX0 = some m.cls := findClass_of_methodNamed B.named
  have hlocks := B.notSynchronized
  have hinX0 : ∀ w ∈ wsX00, w ∈ wsX0_orderOf := by decide +kernel
  subst hsz
  have hD := hD0.self (sz := s.heap.size)
  generalize hAe : va_A [(th, .inr (0, [.ref tqa, .ref tqb, .ref tqc, .ref tzh, .int tdd, .int tsz])), (tqa, .inl (cyI, 40, .inl tfa)), (tqb, .inl (cyI, 40, .inl tfb)), (tqc, .inl (cyI, 40, .inl tfc)), (tzh, .inr (1, [.int tzra, .int tzrb, .int tzrc, .int tzrp, .int tzrq, .int tzrr, .int tzrs, .int tzrd]))] s.heap.size = A at hD ⊢
  have hA : ∀ q : Nat, s.heap.size ≤ q → A q := fun q h => by rw [← hAe]; exact Or.inr h
  have hS : va_S A s.heap s.heap [] := va_S.rf
  have hP : va_P (dC, dI) vwCl [(th, .inr (0, [.ref tqa, .ref tqb, .ref tqc, .ref tzh, .int tdd, .int tsz])), (tqa, .inl (cyI, 40, .inl tfa)), (tqb, .inl (cyI, 40, .inl tfb)), (tqc, .inl (cyI, 40, .inl tfc)), (tzh, .inr (1, [.int tzra, .int tzrb, .int tzrc, .int tzrp, .int tzrq, .int tzrr, .int tzrs, .int tzrd]))] s.heap := hP
  have hl := lv_entry ([.ref th, .int p0]) (n := 4) (Nat.le_of_ble_eq_true rfl)
  rw [lg_entry_eq]
  generalize (lg_sl ([.ref th, .int p0]) ++ List.replicate (4 - (lg_sl ([.ref th, .int p0])).length) Slot.unset).toArray = ls at hl ⊢
  have hl : lv_has ls 4 [(0, .ref th), (1, .int p0)] := hl
  obtain ⟨QQ, hQQ⟩ : ∃ Q, Q = MQ below (va_Qi (fun r (_ : Unit) => r = rv) (fun _ t => mc_Post (dC, dI) A [(th, .inr (0, [.ref tqa, .ref tqb, .ref tqc, .ref tzh, .int tdd, .int tsz])), (tqa, .inl (cyI, 40, .inl tfa)), (tqb, .inl (cyI, 40, .inl tfb)), (tqc, .inl (cyI, 40, .inl tfc)), (tzh, .inr (1, [.int tzra', .int tzrb', .int tzrc', .int tzrp', .int tzrq', .int tzrr', .int tzrs', .int tzrd']))] t) A) ([Value.ref th, Value.int p0] : List Value).toArray s 0 0 A := ⟨_, rfl⟩
  rw [← hQQ]
  have h := hf
  unfold f_X0_orderOf at h
  refine lv_iconst (v := 1) hx hb dX0_orderOf_0 (by decide) ?_
  refine lv_istore_n (lv' := [(2, .int (1 : Int32)), (0, .ref th), (1, .int p0)]) hx hb dX0_orderOf_1 rfl hl (by decide) rfl (fun ls hl => ?_)
  refine lv_iload_n hx hb dX0_orderOf_2 rfl (lv_at hl 2 rfl) ?_
  refine lv_istore_n (lv' := [(3, .int p0), (2, .int (1 : Int32)), (0, .ref th), (1, .int p0)]) hx hb dX0_orderOf_3 rfl hl (by decide) rfl (fun ls hl => ?_)
  have L4 : ∀ (n4 : Nat) (v1 : Int32) (v2 : Int32) (v3 : Int32) (v4 : Int32) (v5 : Int32) (v6 : Int32) (v7 : Int32) (v8 : Int32) (v9 : Int32) (v10 : Int32) (H : Heap) (locs : List Loc) (ls : Array Slot), f_X0_orderOf_L4 tfa tfb tdd tsz p0 n4 v1 v2 v3 v4 v5 v6 v7 v8 v9 v10 = some (rv, tzra', tzrb', tzrc', tzrp', tzrq', tzrr', tzrs', tzrd') → va_P (dC, dI) vwCl [(th, .inr (0, [.ref tqa, .ref tqb, .ref tqc, .ref tzh, .int tdd, .int tsz])), (tqa, .inl (cyI, 40, .inl tfa)), (tqb, .inl (cyI, 40, .inl tfb)), (tqc, .inl (cyI, 40, .inl tfc)), (tzh, .inr (1, [.int v3, .int v4, .int v5, .int v6, .int v7, .int v8, .int v9, .int v10]))] H → va_D A [(th, .inr (0, [.ref tqa, .ref tqb, .ref tqc, .ref tzh, .int tdd, .int tsz])), (tqa, .inl (cyI, 40, .inl tfa)), (tqb, .inl (cyI, 40, .inl tfb)), (tqc, .inl (cyI, 40, .inl tfc)), (tzh, .inr (1, [.int v3, .int v4, .int v5, .int v6, .int v7, .int v8, .int v9, .int v10]))] → va_S A s.heap H locs → lv_has ls 4 [(3, .int v1), (2, .int v2), (0, .ref th), (1, .int p0)] → W p l e (headSpec wsX0_orderOf { frames := 4, cells := 0, slots := 0, locals := 92 }).room s m ([Value.ref th, Value.int p0] : List Value).toArray below meth c H locs 0 0 QQ (F0 m 4 ls []) := by
    intro n4
    induction n4 with
    | zero =>
      intro v1 v2 v3 v4 v5 v6 v7 v8 v9 v10 H locs ls h
      exact nomatch (show (none : Option (Int32 × Int32 × Int32 × Int32 × Int32 × Int32 × Int32 × Int32 × Int32)) = some _ from h)
    | succ n4 ih4 =>
      intro v1 v2 v3 v4 v5 v6 v7 v8 v9 v10 H locs ls h hP hD hS hl
      rw [f_X0_orderOf_L4] at h
      refine lv_iload_n hx hb dX0_orderOf_4 rfl (lv_at hl 0 rfl) ?_
      refine lv_if_eq (tgt := 29) hx hb dX0_orderOf_5 (by decide) (fun hc11 => ?_) (fun hc11 => ?_)
      · have h := dm_t hc11 h
        refine lv_iload_n hx hb dX0_orderOf_29 rfl (lv_at hl 1 rfl) ?_
        obtain ⟨hE0, hE1, hE2, hE3, hE4, hE5, hE6, hE7, hE8⟩ := dm_i9 h
        subst hE0; subst hE1; subst hE2; subst hE3; subst hE4; subst hE5; subst hE6; subst hE7; subst hE8
        rw [hQQ]
        have hP9 := hP.sub (ws' := [(th, .inr (0, [.ref tqa, .ref tqb, .ref tqc, .ref tzh, .int tdd, .int tsz])), (tqa, .inl (cyI, 40, .inl tfa)), (tqb, .inl (cyI, 40, .inl tfb)), (tqc, .inl (cyI, 40, .inl tfc)), (tzh, .inr (1, [.int v3, .int v4, .int v5, .int v6, .int v7, .int v8, .int v9, .int v10]))]) [0, 1, 2, 3, 4] rfl
        have hD9 := hD.sub (ws' := [(th, .inr (0, [.ref tqa, .ref tqb, .ref tqc, .ref tzh, .int tdd, .int tsz])), (tqa, .inl (cyI, 40, .inl tfa)), (tqb, .inl (cyI, 40, .inl tfb)), (tqc, .inl (cyI, 40, .inl tfc)), (tzh, .inr (1, [.int v3, .int v4, .int v5, .int v6, .int v7, .int v8, .int v9, .int v10]))]) [0, 1, 2, 3, 4] (by decide) rfl
        exact W.iret (v := v2) hx hb hr (fun t ht hW => ⟨⟨v2, (), rfl, rfl, by rw [ht]; exact hP9, hD9⟩, hS.F ht⟩) hS.2.2 dX0_orderOf_30
      · have h := dm_f hc11 h
        refine lv_iload_n hx hb dX0_orderOf_8 rfl (lv_at hl 1 rfl) ?_
        refine lv_aload_n hx hb dX0_orderOf_9 rfl (lv_at hl 2 rfl) ?_
        refine va_get (D := (dC, dI)) (ci := 0) (v := .int tsz) (C := RX0) (T := TX0) (N := 6) hx hb hts hinX0 hown hK hP 0 rfl rfl 5 (by decide) (hts (.fieldLink RX0 32 "FormDesk$ClassList" "size" "I") (by decide +kernel)) (fun _ h9 => h9) rfl dX0_orderOf_10 ?_
        refine lv_icmp_ge (tgt := 29) hx hb dX0_orderOf_13 (by decide) (fun hc12 => ?_) (fun hc12 => ?_)
        · have h := dm_t hc12 h
          refine lv_iload_n hx hb dX0_orderOf_29 rfl (lv_at hl 1 rfl) ?_
          obtain ⟨hE0, hE1, hE2, hE3, hE4, hE5, hE6, hE7, hE8⟩ := dm_i9 h
          subst hE0; subst hE1; subst hE2; subst hE3; subst hE4; subst hE5; subst hE6; subst hE7; subst hE8
          rw [hQQ]
          have hP9 := hP.sub (ws' := [(th, .inr (0, [.ref tqa, .ref tqb, .ref tqc, .ref tzh, .int tdd, .int tsz])), (tqa, .inl (cyI, 40, .inl tfa)), (tqb, .inl (cyI, 40, .inl tfb)), (tqc, .inl (cyI, 40, .inl tfc)), (tzh, .inr (1, [.int v3, .int v4, .int v5, .int v6, .int v7, .int v8, .int v9, .int v10]))]) [0, 1, 2, 3, 4] rfl
          have hD9 := hD.sub (ws' := [(th, .inr (0, [.ref tqa, .ref tqb, .ref tqc, .ref tzh, .int tdd, .int tsz])), (tqa, .inl (cyI, 40, .inl tfa)), (tqb, .inl (cyI, 40, .inl tfb)), (tqc, .inl (cyI, 40, .inl tfc)), (tzh, .inr (1, [.int v3, .int v4, .int v5, .int v6, .int v7, .int v8, .int v9, .int v10]))]) [0, 1, 2, 3, 4] (by decide) rfl
          exact W.iret (v := v2) hx hb hr (fun t ht hW => ⟨⟨v2, (), rfl, rfl, by rw [ht]; exact hP9, hD9⟩, hS.F ht⟩) hS.2.2 dX0_orderOf_30
        · have h := dm_f hc12 h
          refine lv_aload_n hx hb dX0_orderOf_16 rfl (lv_at hl 2 rfl) ?_
          refine lv_iload_n hx hb dX0_orderOf_17 rfl (lv_at hl 0 rfl) ?_
          refine lv_iload_n hx hb dX0_orderOf_18 rfl (lv_at hl 3 rfl) ?_
          obtain ⟨r13, w14, w15, w16, w17, w18, w19, w20, w21, hk22, h⟩ := dm_b9s h
          refine mc_i (wr := []) (va_runV (As := [.int v1, .int p0]) (rest := []) ⟨hx, hb, hml, hown, hts⟩ (c_X0_product l dC dI cyI cyJ cyC th tqa tqb tqc tzh H.size tfa tfb tfc tdd tsz v3 v4 v5 v6 v7 v8 v9 v10 v1 p0 r13 w14 w15 w16 w17 w18 w19 w20 w21 hk22) (cwV 2 hts gX0_orderOf_X0_product rfl rfl rfl (by decide +kernel) ⟨(Nat.le_of_ble_eq_true rfl), (Nat.le_of_ble_eq_true rfl)⟩) (mc_preV hK (hP.sub (ws' := [(th, .inr (0, [.ref tqa, .ref tqb, .ref tqc, .ref tzh, .int tdd, .int tsz])), (tqa, .inl (cyI, 40, .inl tfa)), (tqb, .inl (cyI, 40, .inl tfb)), (tqc, .inl (cyI, 40, .inl tfc)), (tzh, .inr (1, [.int v3, .int v4, .int v5, .int v6, .int v7, .int v8, .int v9, .int v10]))]) [0, 1, 2, 3, 4] rfl) (hD.sub (ws' := [(th, .inr (0, [.ref tqa, .ref tqb, .ref tqc, .ref tzh, .int tdd, .int tsz])), (tqa, .inl (cyI, 40, .inl tfa)), (tqb, .inl (cyI, 40, .inl tfb)), (tqc, .inl (cyI, 40, .inl tfc)), (tzh, .inr (1, [.int v3, .int v4, .int v5, .int v6, .int v7, .int v8, .int v9, .int v10]))]) [0, 1, 2, 3, 4] (by decide) rfl) hnw rfl rfl) rfl rfl hl.1 rfl (lv_room (Nat.le_of_ble_eq_true rfl)) dX0_orderOf_19 ⟨Nat.zero_le _, Nat.zero_le _⟩) hP hD hS hA [0, 1, 2, 3, 4] [] rfl rfl rfl (by decide) (fun H locs hP hD hS => ?_)
          have hP : va_P (dC, dI) vwCl [(th, .inr (0, [.ref tqa, .ref tqb, .ref tqc, .ref tzh, .int tdd, .int tsz])), (tqa, .inl (cyI, 40, .inl tfa)), (tqb, .inl (cyI, 40, .inl tfb)), (tqc, .inl (cyI, 40, .inl tfc)), (tzh, .inr (1, [.int w14, .int w15, .int w16, .int w17, .int w18, .int w19, .int w20, .int w21]))] H := hP
          have hD : va_D A [(th, .inr (0, [.ref tqa, .ref tqb, .ref tqc, .ref tzh, .int tdd, .int tsz])), (tqa, .inl (cyI, 40, .inl tfa)), (tqb, .inl (cyI, 40, .inl tfb)), (tqc, .inl (cyI, 40, .inl tfc)), (tzh, .inr (1, [.int w14, .int w15, .int w16, .int w17, .int w18, .int w19, .int w20, .int w21]))] := hD
          refine lv_istore_n (lv' := [(3, .int r13), (2, .int v2), (0, .ref th), (1, .int p0)]) hx hb dX0_orderOf_22 rfl hl (by decide) rfl (fun ls hl => ?_)
          obtain ⟨x23, ex23⟩ : ∃ y : Int32, y = (v2 + (1 : Int32)) := ⟨_, rfl⟩
          have h := dm_lu ex23 h
          refine lv_iinc (v := x23) (lv' := [(2, .int x23), (3, .int r13), (0, .ref th), (1, .int p0)]) hx hb dX0_orderOf_23 hl (k := 1) rfl (by rw [ex23]; rfl) (by decide) rfl (fun ls hl => ?_)
          refine lv_goto (tgt := 4) hx hb dX0_orderOf_26 (by decide) ?_
          exact ih4 r13 x23 w14 w15 w16 w17 w18 w19 w20 w21 H _ ls h (hP.sub [0, 1, 2, 3, 4] rfl) (hD.sub [0, 1, 2, 3, 4] (by decide) rfl) hS (lv_sub hl [1, 0, 2, 3] rfl)
  exact L4 100000 p0 (1 : Int32) tzra tzrb tzrc tzrp tzrq tzrr tzrs tzrd s.heap _ ls h hP hD hS hl

def f_X0_genusOf_L4 (tfa : Nat → Int32) (tfb : Nat → Int32) (tdd : Int32) (tsz : Int32) (p0 : Int32)  : Nat → Int32 → Int32 → Int32 → Int32 → Int32 → Int32 → Int32 → Int32 → Int32 → Int32 → Option (Int32 × Int32 × Int32 × Int32 × Int32 × Int32 × Int32 × Int32 × Int32)
  | 0, _, _, _, _, _, _, _, _, _, _ => none
  | n + 1, v1, v2, v3, v4, v5, v6, v7, v8, v9, v10 =>
    if tsz ≤ v1 then
      some (v2, v3, v4, v5, v6, v7, v8, v9, v10)
    else
      dm_b9 (f_X0_product tfa tfb tdd tsz v1 v1) fun r12 w13 w14 w15 w16 w17 w18 w19 w20 =>
      dm_b9 (f_X0_product tfa tfb tdd tsz p0 r12) fun r22 w23 w24 w25 w26 w27 w28 w29 w30 =>
      dm_let (if r22 < v2 then r22 else v2) fun x32 =>
      dm_let (v1 + (1 : Int32)) fun x33 =>
      f_X0_genusOf_L4 tfa tfb tdd tsz p0 n x33 x32 w23 w24 w25 w26 w27 w28 w29 w30
def f_X0_genusOf (tfa : Nat → Int32) (tfb : Nat → Int32) (tdd : Int32) (tsz : Int32) (tzra : Int32) (tzrb : Int32) (tzrc : Int32) (tzrp : Int32) (tzrq : Int32) (tzrr : Int32) (tzrs : Int32) (tzrd : Int32) (p0 : Int32) : Option (Int32 × Int32 × Int32 × Int32 × Int32 × Int32 × Int32 × Int32 × Int32) :=
  f_X0_genusOf_L4 tfa tfb tdd tsz p0 100000 (0 : Int32) p0 tzra tzrb tzrc tzrp tzrq tzrr tzrs tzrd
set_option maxHeartbeats 4000000 in
set_option maxRecDepth 100000 in
theorem c_X0_genusOf (l : Launch) (dC : Nat → ClassId) (dI : Nat → Nat → Nat) (cyI cyJ cyC : ClassId) (th tqa tqb tqc tzh : Nat) (sz : Nat) (tfa : Nat → Int32) (tfb : Nat → Int32) (tfc : Nat → Int32) (tdd : Int32) (tsz : Int32) (tzra : Int32) (tzrb : Int32) (tzrc : Int32) (tzrp : Int32) (tzrq : Int32) (tzrr : Int32) (tzrs : Int32) (tzrd : Int32) (p0 : Int32) (rv : Int32) (tzra' : Int32) (tzrb' : Int32) (tzrc' : Int32) (tzrp' : Int32) (tzrq' : Int32) (tzrr' : Int32) (tzrs' : Int32) (tzrd' : Int32) (hf : f_X0_genusOf tfa tfb tdd tsz tzra tzrb tzrc tzrp tzrq tzrr tzrs tzrd p0 = some (rv, tzra', tzrb', tzrc', tzrp', tzrq', tzrr', tzrs', tzrd')) : Met l yX0_genusOf wsX0_genusOf { frames := 4, cells := 0, slots := 0, locals := 92 } (va_Pc [.ref th, .int p0] (mc_Pre (dC, dI) (mc_tys cyI cyJ cyC) [(th, .inr (0, [.ref tqa, .ref tqb, .ref tqc, .ref tzh, .int tdd, .int tsz])), (tqa, .inl (cyI, 40, .inl tfa)), (tqb, .inl (cyI, 40, .inl tfb)), (tqc, .inl (cyI, 40, .inl tfc)), (tzh, .inr (1, [.int tzra, .int tzrb, .int tzrc, .int tzrp, .int tzrq, .int tzrr, .int tzrs, .int tzrd]))] sz)) (va_Qi (fun r (_ : Unit) => r = rv) (fun _ t => mc_Post (dC, dI) (va_A [(th, .inr (0, [.ref tqa, .ref tqb, .ref tqc, .ref tzh, .int tdd, .int tsz])), (tqa, .inl (cyI, 40, .inl tfa)), (tqb, .inl (cyI, 40, .inl tfb)), (tqc, .inl (cyI, 40, .inl tfc)), (tzh, .inr (1, [.int tzra, .int tzrb, .int tzrc, .int tzrp, .int tzrq, .int tzrr, .int tzrs, .int tzrd]))] sz) [(th, .inr (0, [.ref tqa, .ref tqb, .ref tqc, .ref tzh, .int tdd, .int tsz])), (tqa, .inl (cyI, 40, .inl tfa)), (tqb, .inl (cyI, 40, .inl tfb)), (tqc, .inl (cyI, 40, .inl tfc)), (tzh, .inr (1, [.int tzra', .int tzrb', .int tzrc', .int tzrp', .int tzrq', .int tzrr', .int tzrs', .int tzrd']))] t) (va_A [(th, .inr (0, [.ref tqa, .ref tqb, .ref tqc, .ref tzh, .int tdd, .int tsz])), (tqa, .inl (cyI, 40, .inl tfa)), (tqb, .inl (cyI, 40, .inl tfb)), (tqc, .inl (cyI, 40, .inl tfc)), (tzh, .inr (1, [.int tzra, .int tzrb, .int tzrc, .int tzrp, .int tzrq, .int tzrr, .int tzrs, .int tzrd]))] sz)) 0 0 (va_A [(th, .inr (0, [.ref tqa, .ref tqb, .ref tqc, .ref tzh, .int tdd, .int tsz])), (tqa, .inl (cyI, 40, .inl tfa)), (tqb, .inl (cyI, 40, .inl tfb)), (tqc, .inl (cyI, 40, .inl tfc)), (tzh, .inr (1, [.int tzra, .int tzrb, .int tzrc, .int tzrp, .int tzrq, .int tzrr, .int tzrs, .int tzrd]))] sz) := by
  refine Met.ofW (cc := cX0_genusOf) (maxL := 4) (ret := (some .int)) (by decide +kernel) rfl ?_
  intro p e s m args below meth c s₁ B hml hv
  obtain ⟨rfl, hsz, hP, hK, hD0, hnw⟩ := hv
  have hx := B.exec
  have hb := B.bytes
  have hr := B.returns
  have hts := atoms_spec (ws := wsX0_genusOf) B.pre
  have hown : s.vm.findClass RX0 = some m.cls := findClass_of_methodNamed B.named
  have hlocks := B.notSynchronized
  have hinX0 : ∀ w ∈ wsX00, w ∈ wsX0_genusOf := by decide +kernel
  subst hsz
  have hD := hD0.self (sz := s.heap.size)
  generalize hAe : va_A [(th, .inr (0, [.ref tqa, .ref tqb, .ref tqc, .ref tzh, .int tdd, .int tsz])), (tqa, .inl (cyI, 40, .inl tfa)), (tqb, .inl (cyI, 40, .inl tfb)), (tqc, .inl (cyI, 40, .inl tfc)), (tzh, .inr (1, [.int tzra, .int tzrb, .int tzrc, .int tzrp, .int tzrq, .int tzrr, .int tzrs, .int tzrd]))] s.heap.size = A at hD ⊢
  have hA : ∀ q : Nat, s.heap.size ≤ q → A q := fun q h => by rw [← hAe]; exact Or.inr h
  have hS : va_S A s.heap s.heap [] := va_S.rf
  have hP : va_P (dC, dI) vwCl [(th, .inr (0, [.ref tqa, .ref tqb, .ref tqc, .ref tzh, .int tdd, .int tsz])), (tqa, .inl (cyI, 40, .inl tfa)), (tqb, .inl (cyI, 40, .inl tfb)), (tqc, .inl (cyI, 40, .inl tfc)), (tzh, .inr (1, [.int tzra, .int tzrb, .int tzrc, .int tzrp, .int tzrq, .int tzrr, .int tzrs, .int tzrd]))] s.heap := hP
  have hl := lv_entry ([.ref th, .int p0]) (n := 4) (Nat.le_of_ble_eq_true rfl)
  rw [lg_entry_eq]
  generalize (lg_sl ([.ref th, .int p0]) ++ List.replicate (4 - (lg_sl ([.ref th, .int p0])).length) Slot.unset).toArray = ls at hl ⊢
  have hl : lv_has ls 4 [(0, .ref th), (1, .int p0)] := hl
  obtain ⟨QQ, hQQ⟩ : ∃ Q, Q = MQ below (va_Qi (fun r (_ : Unit) => r = rv) (fun _ t => mc_Post (dC, dI) A [(th, .inr (0, [.ref tqa, .ref tqb, .ref tqc, .ref tzh, .int tdd, .int tsz])), (tqa, .inl (cyI, 40, .inl tfa)), (tqb, .inl (cyI, 40, .inl tfb)), (tqc, .inl (cyI, 40, .inl tfc)), (tzh, .inr (1, [.int tzra', .int tzrb', .int tzrc', .int tzrp', .int tzrq', .int tzrr', .int tzrs', .int tzrd']))] t) A) ([Value.ref th, Value.int p0] : List Value).toArray s 0 0 A := ⟨_, rfl⟩
  rw [← hQQ]
  have h := hf
  unfold f_X0_genusOf at h
  refine lv_iload_n hx hb dX0_genusOf_0 rfl (lv_at hl 1 rfl) ?_
  refine lv_istore_n (lv' := [(2, .int p0), (0, .ref th), (1, .int p0)]) hx hb dX0_genusOf_1 rfl hl (by decide) rfl (fun ls hl => ?_)
  refine lv_iconst (v := 0) hx hb dX0_genusOf_2 (by decide) ?_
  refine lv_istore_n (lv' := [(3, .int (0 : Int32)), (2, .int p0), (0, .ref th), (1, .int p0)]) hx hb dX0_genusOf_3 rfl hl (by decide) rfl (fun ls hl => ?_)
  have L4 : ∀ (n4 : Nat) (v1 : Int32) (v2 : Int32) (v3 : Int32) (v4 : Int32) (v5 : Int32) (v6 : Int32) (v7 : Int32) (v8 : Int32) (v9 : Int32) (v10 : Int32) (H : Heap) (locs : List Loc) (ls : Array Slot), f_X0_genusOf_L4 tfa tfb tdd tsz p0 n4 v1 v2 v3 v4 v5 v6 v7 v8 v9 v10 = some (rv, tzra', tzrb', tzrc', tzrp', tzrq', tzrr', tzrs', tzrd') → va_P (dC, dI) vwCl [(th, .inr (0, [.ref tqa, .ref tqb, .ref tqc, .ref tzh, .int tdd, .int tsz])), (tqa, .inl (cyI, 40, .inl tfa)), (tqb, .inl (cyI, 40, .inl tfb)), (tqc, .inl (cyI, 40, .inl tfc)), (tzh, .inr (1, [.int v3, .int v4, .int v5, .int v6, .int v7, .int v8, .int v9, .int v10]))] H → va_D A [(th, .inr (0, [.ref tqa, .ref tqb, .ref tqc, .ref tzh, .int tdd, .int tsz])), (tqa, .inl (cyI, 40, .inl tfa)), (tqb, .inl (cyI, 40, .inl tfb)), (tqc, .inl (cyI, 40, .inl tfc)), (tzh, .inr (1, [.int v3, .int v4, .int v5, .int v6, .int v7, .int v8, .int v9, .int v10]))] → va_S A s.heap H locs → lv_has ls 4 [(3, .int v1), (2, .int v2), (0, .ref th), (1, .int p0)] → W p l e (headSpec wsX0_genusOf { frames := 4, cells := 0, slots := 0, locals := 92 }).room s m ([Value.ref th, Value.int p0] : List Value).toArray below meth c H locs 0 0 QQ (F0 m 4 ls []) := by
    intro n4
    induction n4 with
    | zero =>
      intro v1 v2 v3 v4 v5 v6 v7 v8 v9 v10 H locs ls h
      exact nomatch (show (none : Option (Int32 × Int32 × Int32 × Int32 × Int32 × Int32 × Int32 × Int32 × Int32)) = some _ from h)
    | succ n4 ih4 =>
      intro v1 v2 v3 v4 v5 v6 v7 v8 v9 v10 H locs ls h hP hD hS hl
      rw [f_X0_genusOf_L4] at h
      refine lv_iload_n hx hb dX0_genusOf_4 rfl (lv_at hl 0 rfl) ?_
      refine lv_aload_n hx hb dX0_genusOf_5 rfl (lv_at hl 2 rfl) ?_
      refine va_get (D := (dC, dI)) (ci := 0) (v := .int tsz) (C := RX0) (T := TX0) (N := 6) hx hb hts hinX0 hown hK hP 0 rfl rfl 5 (by decide) (hts (.fieldLink RX0 32 "FormDesk$ClassList" "size" "I") (by decide +kernel)) (fun _ h9 => h9) rfl dX0_genusOf_6 ?_
      refine lv_icmp_ge (tgt := 34) hx hb dX0_genusOf_9 (by decide) (fun hc11 => ?_) (fun hc11 => ?_)
      · have h := dm_t hc11 h
        refine lv_iload_n hx hb dX0_genusOf_34 rfl (lv_at hl 1 rfl) ?_
        obtain ⟨hE0, hE1, hE2, hE3, hE4, hE5, hE6, hE7, hE8⟩ := dm_i9 h
        subst hE0; subst hE1; subst hE2; subst hE3; subst hE4; subst hE5; subst hE6; subst hE7; subst hE8
        rw [hQQ]
        have hP9 := hP.sub (ws' := [(th, .inr (0, [.ref tqa, .ref tqb, .ref tqc, .ref tzh, .int tdd, .int tsz])), (tqa, .inl (cyI, 40, .inl tfa)), (tqb, .inl (cyI, 40, .inl tfb)), (tqc, .inl (cyI, 40, .inl tfc)), (tzh, .inr (1, [.int v3, .int v4, .int v5, .int v6, .int v7, .int v8, .int v9, .int v10]))]) [0, 1, 2, 3, 4] rfl
        have hD9 := hD.sub (ws' := [(th, .inr (0, [.ref tqa, .ref tqb, .ref tqc, .ref tzh, .int tdd, .int tsz])), (tqa, .inl (cyI, 40, .inl tfa)), (tqb, .inl (cyI, 40, .inl tfb)), (tqc, .inl (cyI, 40, .inl tfc)), (tzh, .inr (1, [.int v3, .int v4, .int v5, .int v6, .int v7, .int v8, .int v9, .int v10]))]) [0, 1, 2, 3, 4] (by decide) rfl
        exact W.iret (v := v2) hx hb hr (fun t ht hW => ⟨⟨v2, (), rfl, rfl, by rw [ht]; exact hP9, hD9⟩, hS.F ht⟩) hS.2.2 dX0_genusOf_35
      · have h := dm_f hc11 h
        refine lv_iload_n hx hb dX0_genusOf_12 rfl (lv_at hl 1 rfl) ?_
        refine lv_aload_n hx hb dX0_genusOf_13 rfl (lv_at hl 2 rfl) ?_
        refine lv_iload_n hx hb dX0_genusOf_14 rfl (lv_at hl 3 rfl) ?_
        refine lv_aload_n hx hb dX0_genusOf_15 rfl (lv_at hl 2 rfl) ?_
        refine lv_iload_n hx hb dX0_genusOf_16 rfl (lv_at hl 0 rfl) ?_
        refine lv_iload_n hx hb dX0_genusOf_17 rfl (lv_at hl 0 rfl) ?_
        obtain ⟨r12, w13, w14, w15, w16, w17, w18, w19, w20, hk21, h⟩ := dm_b9s h
        refine mc_i (wr := []) (va_runV (As := [.int v1, .int v1]) (rest := [.int p0, .ref th, .int v2]) ⟨hx, hb, hml, hown, hts⟩ (c_X0_product l dC dI cyI cyJ cyC th tqa tqb tqc tzh H.size tfa tfb tfc tdd tsz v3 v4 v5 v6 v7 v8 v9 v10 v1 v1 r12 w13 w14 w15 w16 w17 w18 w19 w20 hk21) (cwV 2 hts gX0_genusOf_X0_product rfl rfl rfl (by decide +kernel) ⟨(Nat.le_of_ble_eq_true rfl), (Nat.le_of_ble_eq_true rfl)⟩) (mc_preV hK (hP.sub (ws' := [(th, .inr (0, [.ref tqa, .ref tqb, .ref tqc, .ref tzh, .int tdd, .int tsz])), (tqa, .inl (cyI, 40, .inl tfa)), (tqb, .inl (cyI, 40, .inl tfb)), (tqc, .inl (cyI, 40, .inl tfc)), (tzh, .inr (1, [.int v3, .int v4, .int v5, .int v6, .int v7, .int v8, .int v9, .int v10]))]) [0, 1, 2, 3, 4] rfl) (hD.sub (ws' := [(th, .inr (0, [.ref tqa, .ref tqb, .ref tqc, .ref tzh, .int tdd, .int tsz])), (tqa, .inl (cyI, 40, .inl tfa)), (tqb, .inl (cyI, 40, .inl tfb)), (tqc, .inl (cyI, 40, .inl tfc)), (tzh, .inr (1, [.int v3, .int v4, .int v5, .int v6, .int v7, .int v8, .int v9, .int v10]))]) [0, 1, 2, 3, 4] (by decide) rfl) hnw rfl rfl) rfl rfl hl.1 rfl (lv_room (Nat.le_of_ble_eq_true rfl)) dX0_genusOf_18 ⟨Nat.zero_le _, Nat.zero_le _⟩) hP hD hS hA [0, 1, 2, 3, 4] [] rfl rfl rfl (by decide) (fun H locs hP hD hS => ?_)
        have hP : va_P (dC, dI) vwCl [(th, .inr (0, [.ref tqa, .ref tqb, .ref tqc, .ref tzh, .int tdd, .int tsz])), (tqa, .inl (cyI, 40, .inl tfa)), (tqb, .inl (cyI, 40, .inl tfb)), (tqc, .inl (cyI, 40, .inl tfc)), (tzh, .inr (1, [.int w13, .int w14, .int w15, .int w16, .int w17, .int w18, .int w19, .int w20]))] H := hP
        have hD : va_D A [(th, .inr (0, [.ref tqa, .ref tqb, .ref tqc, .ref tzh, .int tdd, .int tsz])), (tqa, .inl (cyI, 40, .inl tfa)), (tqb, .inl (cyI, 40, .inl tfb)), (tqc, .inl (cyI, 40, .inl tfc)), (tzh, .inr (1, [.int w13, .int w14, .int w15, .int w16, .int w17, .int w18, .int w19, .int w20]))] := hD
        obtain ⟨r22, w23, w24, w25, w26, w27, w28, w29, w30, hk31, h⟩ := dm_b9s h
        refine mc_i (wr := []) (va_runV (As := [.int p0, .int r12]) (rest := [.int v2]) ⟨hx, hb, hml, hown, hts⟩ (c_X0_product l dC dI cyI cyJ cyC th tqa tqb tqc tzh H.size tfa tfb tfc tdd tsz w13 w14 w15 w16 w17 w18 w19 w20 p0 r12 r22 w23 w24 w25 w26 w27 w28 w29 w30 hk31) (cwV 2 hts gX0_genusOf_X0_product rfl rfl rfl (by decide +kernel) ⟨(Nat.le_of_ble_eq_true rfl), (Nat.le_of_ble_eq_true rfl)⟩) (mc_preV hK (hP.sub (ws' := [(th, .inr (0, [.ref tqa, .ref tqb, .ref tqc, .ref tzh, .int tdd, .int tsz])), (tqa, .inl (cyI, 40, .inl tfa)), (tqb, .inl (cyI, 40, .inl tfb)), (tqc, .inl (cyI, 40, .inl tfc)), (tzh, .inr (1, [.int w13, .int w14, .int w15, .int w16, .int w17, .int w18, .int w19, .int w20]))]) [0, 1, 2, 3, 4] rfl) (hD.sub (ws' := [(th, .inr (0, [.ref tqa, .ref tqb, .ref tqc, .ref tzh, .int tdd, .int tsz])), (tqa, .inl (cyI, 40, .inl tfa)), (tqb, .inl (cyI, 40, .inl tfb)), (tqc, .inl (cyI, 40, .inl tfc)), (tzh, .inr (1, [.int w13, .int w14, .int w15, .int w16, .int w17, .int w18, .int w19, .int w20]))]) [0, 1, 2, 3, 4] (by decide) rfl) hnw rfl rfl) rfl rfl hl.1 rfl (lv_room (Nat.le_of_ble_eq_true rfl)) dX0_genusOf_21 ⟨Nat.zero_le _, Nat.zero_le _⟩) hP hD hS hA [0, 1, 2, 3, 4] [] rfl rfl rfl (by decide) (fun H locs hP hD hS => ?_)
        have hP : va_P (dC, dI) vwCl [(th, .inr (0, [.ref tqa, .ref tqb, .ref tqc, .ref tzh, .int tdd, .int tsz])), (tqa, .inl (cyI, 40, .inl tfa)), (tqb, .inl (cyI, 40, .inl tfb)), (tqc, .inl (cyI, 40, .inl tfc)), (tzh, .inr (1, [.int w23, .int w24, .int w25, .int w26, .int w27, .int w28, .int w29, .int w30]))] H := hP
        have hD : va_D A [(th, .inr (0, [.ref tqa, .ref tqb, .ref tqc, .ref tzh, .int tdd, .int tsz])), (tqa, .inl (cyI, 40, .inl tfa)), (tqb, .inl (cyI, 40, .inl tfb)), (tqc, .inl (cyI, 40, .inl tfc)), (tzh, .inr (1, [.int w23, .int w24, .int w25, .int w26, .int w27, .int w28, .int w29, .int w30]))] := hD
        refine va_mmin hx hb (hml.trans hl.1.symm) hown (hts (.methodLink RX0 65 Lib.Math.min.name) (by decide +kernel)) (hts (.static Lib.Math.min.name) (by decide +kernel)) (hts (.initialized "java/lang/Math") (by decide +kernel)) (hts (.code Lib.Math.min.name Lib.Math.min.code 2 (some .int)) (by decide +kernel)) (Nat.le_of_ble_eq_true rfl) (Nat.le_of_ble_eq_true rfl) (Nat.zero_le _) (Nat.zero_le _) dX0_genusOf_24 ?_
        refine lv_topi (fun x32 ex32 => ?_)
        have h := dm_lu ex32 h
        refine lv_istore_n (lv' := [(2, .int x32), (3, .int v1), (0, .ref th), (1, .int p0)]) hx hb dX0_genusOf_27 rfl hl (by decide) rfl (fun ls hl => ?_)
        obtain ⟨x33, ex33⟩ : ∃ y : Int32, y = (v1 + (1 : Int32)) := ⟨_, rfl⟩
        have h := dm_lu ex33 h
        refine lv_iinc (v := x33) (lv' := [(3, .int x33), (2, .int x32), (0, .ref th), (1, .int p0)]) hx hb dX0_genusOf_28 hl (k := 1) rfl (by rw [ex33]; rfl) (by decide) rfl (fun ls hl => ?_)
        refine lv_goto (tgt := 4) hx hb dX0_genusOf_31 (by decide) ?_
        exact ih4 x33 x32 w23 w24 w25 w26 w27 w28 w29 w30 H _ ls h (hP.sub [0, 1, 2, 3, 4] rfl) (hD.sub [0, 1, 2, 3, 4] (by decide) rfl) hS (lv_sub hl [0, 1, 2, 3] rfl)
  exact L4 100000 (0 : Int32) p0 tzra tzrb tzrc tzrp tzrq tzrr tzrs tzrd s.heap _ ls h hP hD hS hl

def f_X0_countGenera_L4 (tfa : Nat → Int32) (tfb : Nat → Int32) (tsz : Int32)  : Nat → Int32 → Int32 → Option (Int32)
  | 0, _, _ => none
  | n + 1, v1, v2 =>
    if tsz ≤ v1 then
      some v2
    else
      dm_b1 (f_X0_opposite tfa tfb tsz v1) fun r4 =>
      if r4 = v1 then
        dm_let (v2 + (1 : Int32)) fun x8 =>
        dm_let (v1 + (1 : Int32)) fun x9 =>
        f_X0_countGenera_L4 tfa tfb tsz n x9 x8
      else
        dm_let (v1 + (1 : Int32)) fun x7 =>
        f_X0_countGenera_L4 tfa tfb tsz n x7 v2
def f_X0_countGenera (tfa : Nat → Int32) (tfb : Nat → Int32) (tsz : Int32) : Option (Int32) :=
  f_X0_countGenera_L4 tfa tfb tsz 100000 (0 : Int32) (0 : Int32)
set_option maxHeartbeats 4000000 in
set_option maxRecDepth 100000 in
theorem c_X0_countGenera (l : Launch) (dC : Nat → ClassId) (dI : Nat → Nat → Nat) (cyI cyJ cyC : ClassId) (th tqa tqb tqc tzh : Nat) (sz : Nat) (tfa : Nat → Int32) (tfb : Nat → Int32) (tfc : Nat → Int32) (tdd : Int32) (tsz : Int32) (tzra : Int32) (tzrb : Int32) (tzrc : Int32) (tzrp : Int32) (tzrq : Int32) (tzrr : Int32) (tzrs : Int32) (tzrd : Int32)  (rv : Int32) (hf : f_X0_countGenera tfa tfb tsz = some rv) : Met l yX0_countGenera wsX0_countGenera { frames := 2, cells := 0, slots := 0, locals := 45 } (va_Pc [.ref th] (mc_Pre (dC, dI) (mc_tys cyI cyJ cyC) [(th, .inr (0, [.ref tqa, .ref tqb, .ref tqc, .ref tzh, .int tdd, .int tsz])), (tqa, .inl (cyI, 40, .inl tfa)), (tqb, .inl (cyI, 40, .inl tfb)), (tqc, .inl (cyI, 40, .inl tfc)), (tzh, .inr (1, [.int tzra, .int tzrb, .int tzrc, .int tzrp, .int tzrq, .int tzrr, .int tzrs, .int tzrd]))] sz)) (va_Qi (fun r (_ : Unit) => r = rv) (fun _ t => mc_Post (dC, dI) (va_A [(th, .inr (0, [.ref tqa, .ref tqb, .ref tqc, .ref tzh, .int tdd, .int tsz])), (tqa, .inl (cyI, 40, .inl tfa)), (tqb, .inl (cyI, 40, .inl tfb)), (tqc, .inl (cyI, 40, .inl tfc)), (tzh, .inr (1, [.int tzra, .int tzrb, .int tzrc, .int tzrp, .int tzrq, .int tzrr, .int tzrs, .int tzrd]))] sz) [(th, .inr (0, [.ref tqa, .ref tqb, .ref tqc, .ref tzh, .int tdd, .int tsz])), (tqa, .inl (cyI, 40, .inl tfa)), (tqb, .inl (cyI, 40, .inl tfb)), (tqc, .inl (cyI, 40, .inl tfc)), (tzh, .inr (1, [.int tzra, .int tzrb, .int tzrc, .int tzrp, .int tzrq, .int tzrr, .int tzrs, .int tzrd]))] t) (va_A [(th, .inr (0, [.ref tqa, .ref tqb, .ref tqc, .ref tzh, .int tdd, .int tsz])), (tqa, .inl (cyI, 40, .inl tfa)), (tqb, .inl (cyI, 40, .inl tfb)), (tqc, .inl (cyI, 40, .inl tfc)), (tzh, .inr (1, [.int tzra, .int tzrb, .int tzrc, .int tzrp, .int tzrq, .int tzrr, .int tzrs, .int tzrd]))] sz)) 0 0 (va_A [(th, .inr (0, [.ref tqa, .ref tqb, .ref tqc, .ref tzh, .int tdd, .int tsz])), (tqa, .inl (cyI, 40, .inl tfa)), (tqb, .inl (cyI, 40, .inl tfb)), (tqc, .inl (cyI, 40, .inl tfc)), (tzh, .inr (1, [.int tzra, .int tzrb, .int tzrc, .int tzrp, .int tzrq, .int tzrr, .int tzrs, .int tzrd]))] sz) := by
  refine Met.ofW (cc := cX0_countGenera) (maxL := 3) (ret := (some .int)) (by decide +kernel) rfl ?_
  intro p e s m args below meth c s₁ B hml hv
  obtain ⟨rfl, hsz, hP, hK, hD0, hnw⟩ := hv
  have hx := B.exec
  have hb := B.bytes
  have hr := B.returns
  have hts := atoms_spec (ws := wsX0_countGenera) B.pre
  have hown : s.vm.findClass RX0 = some m.cls := findClass_of_methodNamed B.named
  have hlocks := B.notSynchronized
  have hinX0 : ∀ w ∈ wsX00, w ∈ wsX0_countGenera := by decide +kernel
  subst hsz
  have hD := hD0.self (sz := s.heap.size)
  generalize hAe : va_A [(th, .inr (0, [.ref tqa, .ref tqb, .ref tqc, .ref tzh, .int tdd, .int tsz])), (tqa, .inl (cyI, 40, .inl tfa)), (tqb, .inl (cyI, 40, .inl tfb)), (tqc, .inl (cyI, 40, .inl tfc)), (tzh, .inr (1, [.int tzra, .int tzrb, .int tzrc, .int tzrp, .int tzrq, .int tzrr, .int tzrs, .int tzrd]))] s.heap.size = A at hD ⊢
  have hA : ∀ q : Nat, s.heap.size ≤ q → A q := fun q h => by rw [← hAe]; exact Or.inr h
  have hS : va_S A s.heap s.heap [] := va_S.rf
  have hP : va_P (dC, dI) vwCl [(th, .inr (0, [.ref tqa, .ref tqb, .ref tqc, .ref tzh, .int tdd, .int tsz])), (tqa, .inl (cyI, 40, .inl tfa)), (tqb, .inl (cyI, 40, .inl tfb)), (tqc, .inl (cyI, 40, .inl tfc)), (tzh, .inr (1, [.int tzra, .int tzrb, .int tzrc, .int tzrp, .int tzrq, .int tzrr, .int tzrs, .int tzrd]))] s.heap := hP
  have hl := lv_entry ([.ref th]) (n := 3) (Nat.le_of_ble_eq_true rfl)
  rw [lg_entry_eq]
  generalize (lg_sl ([.ref th]) ++ List.replicate (3 - (lg_sl ([.ref th])).length) Slot.unset).toArray = ls at hl ⊢
  have hl : lv_has ls 3 [(0, .ref th)] := hl
  obtain ⟨QQ, hQQ⟩ : ∃ Q, Q = MQ below (va_Qi (fun r (_ : Unit) => r = rv) (fun _ t => mc_Post (dC, dI) A [(th, .inr (0, [.ref tqa, .ref tqb, .ref tqc, .ref tzh, .int tdd, .int tsz])), (tqa, .inl (cyI, 40, .inl tfa)), (tqb, .inl (cyI, 40, .inl tfb)), (tqc, .inl (cyI, 40, .inl tfc)), (tzh, .inr (1, [.int tzra, .int tzrb, .int tzrc, .int tzrp, .int tzrq, .int tzrr, .int tzrs, .int tzrd]))] t) A) ([Value.ref th] : List Value).toArray s 0 0 A := ⟨_, rfl⟩
  rw [← hQQ]
  have h := hf
  unfold f_X0_countGenera at h
  refine lv_iconst (v := 0) hx hb dX0_countGenera_0 (by decide) ?_
  refine lv_istore_n (lv' := [(1, .int (0 : Int32)), (0, .ref th)]) hx hb dX0_countGenera_1 rfl hl (by decide) rfl (fun ls hl => ?_)
  refine lv_iconst (v := 0) hx hb dX0_countGenera_2 (by decide) ?_
  refine lv_istore_n (lv' := [(2, .int (0 : Int32)), (1, .int (0 : Int32)), (0, .ref th)]) hx hb dX0_countGenera_3 rfl hl (by decide) rfl (fun ls hl => ?_)
  have L4 : ∀ (n4 : Nat) (v1 : Int32) (v2 : Int32) (H : Heap) (locs : List Loc) (ls : Array Slot), f_X0_countGenera_L4 tfa tfb tsz n4 v1 v2 = some rv → va_P (dC, dI) vwCl [(th, .inr (0, [.ref tqa, .ref tqb, .ref tqc, .ref tzh, .int tdd, .int tsz])), (tqa, .inl (cyI, 40, .inl tfa)), (tqb, .inl (cyI, 40, .inl tfb)), (tqc, .inl (cyI, 40, .inl tfc)), (tzh, .inr (1, [.int tzra, .int tzrb, .int tzrc, .int tzrp, .int tzrq, .int tzrr, .int tzrs, .int tzrd]))] H → va_D A [(th, .inr (0, [.ref tqa, .ref tqb, .ref tqc, .ref tzh, .int tdd, .int tsz])), (tqa, .inl (cyI, 40, .inl tfa)), (tqb, .inl (cyI, 40, .inl tfb)), (tqc, .inl (cyI, 40, .inl tfc)), (tzh, .inr (1, [.int tzra, .int tzrb, .int tzrc, .int tzrp, .int tzrq, .int tzrr, .int tzrs, .int tzrd]))] → va_S A s.heap H locs → lv_has ls 3 [(2, .int v1), (1, .int v2), (0, .ref th)] → W p l e (headSpec wsX0_countGenera { frames := 2, cells := 0, slots := 0, locals := 45 }).room s m ([Value.ref th] : List Value).toArray below meth c H locs 0 0 QQ (F0 m 4 ls []) := by
    intro n4
    induction n4 with
    | zero =>
      intro v1 v2 H locs ls h
      exact nomatch (show (none : Option (Int32)) = some _ from h)
    | succ n4 ih4 =>
      intro v1 v2 H locs ls h hP hD hS hl
      rw [f_X0_countGenera_L4] at h
      refine lv_iload_n hx hb dX0_countGenera_4 rfl (lv_at hl 0 rfl) ?_
      refine lv_aload_n hx hb dX0_countGenera_5 rfl (lv_at hl 2 rfl) ?_
      refine va_get (D := (dC, dI)) (ci := 0) (v := .int tsz) (C := RX0) (T := TX0) (N := 6) hx hb hts hinX0 hown hK hP 0 rfl rfl 5 (by decide) (hts (.fieldLink RX0 32 "FormDesk$ClassList" "size" "I") (by decide +kernel)) (fun _ h9 => h9) rfl dX0_countGenera_6 ?_
      refine lv_icmp_ge (tgt := 30) hx hb dX0_countGenera_9 (by decide) (fun hc3 => ?_) (fun hc3 => ?_)
      · have h := dm_t hc3 h
        refine lv_iload_n hx hb dX0_countGenera_30 rfl (lv_at hl 1 rfl) ?_
        obtain hE0 := dm_i1 h
        subst hE0
        rw [hQQ]
        have hP9 := hP.sub (ws' := [(th, .inr (0, [.ref tqa, .ref tqb, .ref tqc, .ref tzh, .int tdd, .int tsz])), (tqa, .inl (cyI, 40, .inl tfa)), (tqb, .inl (cyI, 40, .inl tfb)), (tqc, .inl (cyI, 40, .inl tfc)), (tzh, .inr (1, [.int tzra, .int tzrb, .int tzrc, .int tzrp, .int tzrq, .int tzrr, .int tzrs, .int tzrd]))]) [0, 1, 2, 3, 4] rfl
        have hD9 := hD.sub (ws' := [(th, .inr (0, [.ref tqa, .ref tqb, .ref tqc, .ref tzh, .int tdd, .int tsz])), (tqa, .inl (cyI, 40, .inl tfa)), (tqb, .inl (cyI, 40, .inl tfb)), (tqc, .inl (cyI, 40, .inl tfc)), (tzh, .inr (1, [.int tzra, .int tzrb, .int tzrc, .int tzrp, .int tzrq, .int tzrr, .int tzrs, .int tzrd]))]) [0, 1, 2, 3, 4] (by decide) rfl
        exact W.iret (v := v2) hx hb hr (fun t ht hW => ⟨⟨v2, (), rfl, rfl, by rw [ht]; exact hP9, hD9⟩, hS.F ht⟩) hS.2.2 dX0_countGenera_31
      · have h := dm_f hc3 h
        refine lv_aload_n hx hb dX0_countGenera_12 rfl (lv_at hl 2 rfl) ?_
        refine lv_iload_n hx hb dX0_countGenera_13 rfl (lv_at hl 0 rfl) ?_
        obtain ⟨r4, hk5, h⟩ := dm_b1s h
        refine mc_i (wr := []) (va_runV (As := [.int v1]) (rest := []) ⟨hx, hb, hml, hown, hts⟩ (c_X0_opposite l dC dI cyI cyJ cyC th tqa tqb tqc tzh H.size tfa tfb tfc tdd tsz tzra tzrb tzrc tzrp tzrq tzrr tzrs tzrd v1 r4 hk5) (cwV 1 hts gX0_countGenera_X0_opposite rfl rfl rfl (by decide +kernel) ⟨(Nat.le_of_ble_eq_true rfl), (Nat.le_of_ble_eq_true rfl)⟩) (mc_preV hK (hP.sub (ws' := [(th, .inr (0, [.ref tqa, .ref tqb, .ref tqc, .ref tzh, .int tdd, .int tsz])), (tqa, .inl (cyI, 40, .inl tfa)), (tqb, .inl (cyI, 40, .inl tfb)), (tqc, .inl (cyI, 40, .inl tfc)), (tzh, .inr (1, [.int tzra, .int tzrb, .int tzrc, .int tzrp, .int tzrq, .int tzrr, .int tzrs, .int tzrd]))]) [0, 1, 2, 3, 4] rfl) (hD.sub (ws' := [(th, .inr (0, [.ref tqa, .ref tqb, .ref tqc, .ref tzh, .int tdd, .int tsz])), (tqa, .inl (cyI, 40, .inl tfa)), (tqb, .inl (cyI, 40, .inl tfb)), (tqc, .inl (cyI, 40, .inl tfc)), (tzh, .inr (1, [.int tzra, .int tzrb, .int tzrc, .int tzrp, .int tzrq, .int tzrr, .int tzrs, .int tzrd]))]) [0, 1, 2, 3, 4] (by decide) rfl) hnw rfl rfl) rfl rfl hl.1 rfl (lv_room (Nat.le_of_ble_eq_true rfl)) dX0_countGenera_14 ⟨Nat.zero_le _, Nat.zero_le _⟩) hP hD hS hA [0, 1, 2, 3, 4] [] rfl rfl rfl (by decide) (fun H locs hP hD hS => ?_)
        have hP : va_P (dC, dI) vwCl [(th, .inr (0, [.ref tqa, .ref tqb, .ref tqc, .ref tzh, .int tdd, .int tsz])), (tqa, .inl (cyI, 40, .inl tfa)), (tqb, .inl (cyI, 40, .inl tfb)), (tqc, .inl (cyI, 40, .inl tfc)), (tzh, .inr (1, [.int tzra, .int tzrb, .int tzrc, .int tzrp, .int tzrq, .int tzrr, .int tzrs, .int tzrd]))] H := hP
        have hD : va_D A [(th, .inr (0, [.ref tqa, .ref tqb, .ref tqc, .ref tzh, .int tdd, .int tsz])), (tqa, .inl (cyI, 40, .inl tfa)), (tqb, .inl (cyI, 40, .inl tfb)), (tqc, .inl (cyI, 40, .inl tfc)), (tzh, .inr (1, [.int tzra, .int tzrb, .int tzrc, .int tzrp, .int tzrq, .int tzrr, .int tzrs, .int tzrd]))] := hD
        refine lv_iload_n hx hb dX0_countGenera_17 rfl (lv_at hl 0 rfl) ?_
        refine lv_icmp_ne (tgt := 24) hx hb dX0_countGenera_18 (by decide) (fun hc6 => ?_) (fun hc6 => ?_)
        · have h := dm_f hc6 h
          obtain ⟨x7, ex7⟩ : ∃ y : Int32, y = (v1 + (1 : Int32)) := ⟨_, rfl⟩
          have h := dm_lu ex7 h
          refine lv_iinc (v := x7) (lv' := [(2, .int x7), (1, .int v2), (0, .ref th)]) hx hb dX0_countGenera_24 hl (k := 0) rfl (by rw [ex7]; rfl) (by decide) rfl (fun ls hl => ?_)
          refine lv_goto (tgt := 4) hx hb dX0_countGenera_27 (by decide) ?_
          exact ih4 x7 v2 H _ ls h (hP.sub [0, 1, 2, 3, 4] rfl) (hD.sub [0, 1, 2, 3, 4] (by decide) rfl) hS (lv_sub hl [0, 1, 2] rfl)
        · have h := dm_t hc6 h
          obtain ⟨x8, ex8⟩ : ∃ y : Int32, y = (v2 + (1 : Int32)) := ⟨_, rfl⟩
          have h := dm_lu ex8 h
          refine lv_iinc (v := x8) (lv' := [(1, .int x8), (2, .int v1), (0, .ref th)]) hx hb dX0_countGenera_21 hl (k := 1) rfl (by rw [ex8]; rfl) (by decide) rfl (fun ls hl => ?_)
          obtain ⟨x9, ex9⟩ : ∃ y : Int32, y = (v1 + (1 : Int32)) := ⟨_, rfl⟩
          have h := dm_lu ex9 h
          refine lv_iinc (v := x9) (lv' := [(2, .int x9), (1, .int x8), (0, .ref th)]) hx hb dX0_countGenera_24 hl (k := 1) rfl (by rw [ex9]; rfl) (by decide) rfl (fun ls hl => ?_)
          refine lv_goto (tgt := 4) hx hb dX0_countGenera_27 (by decide) ?_
          exact ih4 x9 x8 H _ ls h (hP.sub [0, 1, 2, 3, 4] rfl) (hD.sub [0, 1, 2, 3, 4] (by decide) rfl) hS (lv_sub hl [0, 1, 2] rfl)
  exact L4 100000 (0 : Int32) (0 : Int32) s.heap _ ls h hP hD hS hl
