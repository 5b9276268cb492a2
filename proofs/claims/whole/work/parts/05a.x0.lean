def f_X0_has (tsz : Int32) (p0 : Int32) : Option (Int32) :=
  if p0 < 0 then
    some (0 : Int32)
  else
    if tsz ≤ p0 then
      some (0 : Int32)
    else
      some (1 : Int32)
set_option maxHeartbeats 4000000 in
set_option maxRecDepth 100000 in
theorem c_X0_has (l : Launch) (dC : Nat → ClassId) (dI : Nat → Nat → Nat) (cyI cyJ cyC : ClassId) (th tqa tqb tqc tzh : Nat) (sz : Nat) (tfa : Nat → Int32) (tfb : Nat → Int32) (tfc : Nat → Int32) (tdd : Int32) (tsz : Int32) (tzra : Int32) (tzrb : Int32) (tzrc : Int32) (tzrp : Int32) (tzrq : Int32) (tzrr : Int32) (tzrs : Int32) (tzrd : Int32) (p0 : Int32) (rv : Int32) (hf : f_X0_has tsz p0 = some rv) : Met l yX0_has wsX0_has { frames := 0, cells := 0, slots := 0, locals := 0 } (va_Pc [.ref th, .int p0] (mc_Pre (dC, dI) (mc_tys cyI cyJ cyC) [(th, .inr (0, [.ref tqa, .ref tqb, .ref tqc, .ref tzh, .int tdd, .int tsz])), (tqa, .inl (cyI, 40, .inl tfa)), (tqb, .inl (cyI, 40, .inl tfb)), (tqc, .inl (cyI, 40, .inl tfc)), (tzh, .inr (1, [.int tzra, .int tzrb, .int tzrc, .int tzrp, .int tzrq, .int tzrr, .int tzrs, .int tzrd]))] sz)) (va_Qi (fun r (_ : Unit) => r = rv) (fun _ t => mc_Post (dC, dI) (va_A [(th, .inr (0, [.ref tqa, .ref tqb, .ref tqc, .ref tzh, .int tdd, .int tsz])), (tqa, .inl (cyI, 40, .inl tfa)), (tqb, .inl (cyI, 40, .inl tfb)), (tqc, .inl (cyI, 40, .inl tfc)), (tzh, .inr (1, [.int tzra, .int tzrb, .int tzrc, .int tzrp, .int tzrq, .int tzrr, .int tzrs, .int tzrd]))] sz) [(th, .inr (0, [.ref tqa, .ref tqb, .ref tqc, .ref tzh, .int tdd, .int tsz])), (tqa, .inl (cyI, 40, .inl tfa)), (tqb, .inl (cyI, 40, .inl tfb)), (tqc, .inl (cyI, 40, .inl tfc)), (tzh, .inr (1, [.int tzra, .int tzrb, .int tzrc, .int tzrp, .int tzrq, .int tzrr, .int tzrs, .int tzrd]))] t) (va_A [(th, .inr (0, [.ref tqa, .ref tqb, .ref tqc, .ref tzh, .int tdd, .int tsz])), (tqa, .inl (cyI, 40, .inl tfa)), (tqb, .inl (cyI, 40, .inl tfb)), (tqc, .inl (cyI, 40, .inl tfc)), (tzh, .inr (1, [.int tzra, .int tzrb, .int tzrc, .int tzrp, .int tzrq, .int tzrr, .int tzrs, .int tzrd]))] sz)) 0 0 (va_A [(th, .inr (0, [.ref tqa, .ref tqb, .ref tqc, .ref tzh, .int tdd, .int tsz])), (tqa, .inl (cyI, 40, .inl tfa)), (tqb, .inl (cyI, 40, .inl tfb)), (tqc, .inl (cyI, 40, .inl tfc)), (tzh, .inr (1, [.int tzra, .int tzrb, .int tzrc, .int tzrp, .int tzrq, .int tzrr, .int tzrs, .int tzrd]))] sz) := by
  refine Met.ofW (cc := cX0_has) (maxL := 2) (ret := (some .boolean)) (by decide +kernel) rfl ?_
  intro p e s m args below meth c s₁ B hml hv
  obtain ⟨rfl, hsz, hP, hK, hD0, hnw⟩ := hv
  have hx := B.exec
  have hb := B.bytes
  have hr := B.returns
  have hts := atoms_spec (ws := wsX0_has) B.pre
  have hown : s.vm.findClass RX0 = some m.cls := findClass_of_methodNamed B.named
  have hlocks := B.notSynchronized
  have hinX0 : ∀ w ∈ wsX00, w ∈ wsX0_has := by decide +kernel
  subst hsz
  have hD := hD0.self (sz := s.heap.size)
  generalize hAe : va_A [(th, .inr (0, [.ref tqa, .ref tqb, .ref tqc, .ref tzh, .int tdd, .int tsz])), (tqa, .inl (cyI, 40, .inl tfa)), (tqb, .inl (cyI, 40, .inl tfb)), (tqc, .inl (cyI, 40, .inl tfc)), (tzh, .inr (1, [.int tzra, .int tzrb, .int tzrc, .int tzrp, .int tzrq, .int tzrr, .int tzrs, .int tzrd]))] s.heap.size = A at hD ⊢
  have hA : ∀ q : Nat, s.heap.size ≤ q → A q := fun q h => by rw [← hAe]; exact Or.inr h
  have hS : va_S A s.heap s.heap [] := va_S.rf
  have hP : va_P (dC, dI) vwCl [(th, .inr (0, [.ref tqa, .ref tqb, .ref tqc, .ref tzh, .int tdd, .int tsz])), (tqa, .inl (cyI, 40, .inl tfa)), (tqb, .inl (cyI, 40, .inl tfb)), (tqc, .inl (cyI, 40, .inl tfc)), (tzh, .inr (1, [.int tzra, .int tzrb, .int tzrc, .int tzrp, .int tzrq, .int tzrr, .int tzrs, .int tzrd]))] s.heap := hP
  have hl := lv_entry ([.ref th, .int p0]) (n := 2) (Nat.le_of_ble_eq_true rfl)
  rw [lg_entry_eq]
  generalize (lg_sl ([.ref th, .int p0]) ++ List.replicate (2 - (lg_sl ([.ref th, .int p0])).length) Slot.unset).toArray = ls at hl ⊢
  have hl : lv_has ls 2 [(0, .ref th), (1, .int p0)] := hl
  obtain ⟨QQ, hQQ⟩ : ∃ Q, Q = MQ below (va_Qi (fun r (_ : Unit) => r = rv) (fun _ t => mc_Post (dC, dI) A [(th, .inr (0, [.ref tqa, .ref tqb, .ref tqc, .ref tzh, .int tdd, .int tsz])), (tqa, .inl (cyI, 40, .inl tfa)), (tqb, .inl (cyI, 40, .inl tfb)), (tqc, .inl (cyI, 40, .inl tfc)), (tzh, .inr (1, [.int tzra, .int tzrb, .int tzrc, .int tzrp, .int tzrq, .int tzrr, .int tzrs, .int tzrd]))] t) A) ([Value.ref th, Value.int p0] : List Value).toArray s 0 0 A := ⟨_, rfl⟩
  rw [← hQQ]
  have h := hf
  unfold f_X0_has at h
  refine lv_iload_n hx hb dX0_has_0 rfl (lv_at hl 1 rfl) ?_
  refine lv_if_lt (tgt := 16) hx hb dX0_has_1 (by decide) (fun hc1 => ?_) (fun hc1 => ?_)
  · have h := dm_t hc1 h
    refine lv_iconst (v := 0) hx hb dX0_has_16 (by decide) ?_
    obtain hE0 := dm_i1 h
    subst hE0
    rw [hQQ]
    have hP9 := hP.sub (ws' := [(th, .inr (0, [.ref tqa, .ref tqb, .ref tqc, .ref tzh, .int tdd, .int tsz])), (tqa, .inl (cyI, 40, .inl tfa)), (tqb, .inl (cyI, 40, .inl tfb)), (tqc, .inl (cyI, 40, .inl tfc)), (tzh, .inr (1, [.int tzra, .int tzrb, .int tzrc, .int tzrp, .int tzrq, .int tzrr, .int tzrs, .int tzrd]))]) [0, 1, 2, 3, 4] rfl
    have hD9 := hD.sub (ws' := [(th, .inr (0, [.ref tqa, .ref tqb, .ref tqc, .ref tzh, .int tdd, .int tsz])), (tqa, .inl (cyI, 40, .inl tfa)), (tqb, .inl (cyI, 40, .inl tfb)), (tqc, .inl (cyI, 40, .inl tfc)), (tzh, .inr (1, [.int tzra, .int tzrb, .int tzrc, .int tzrp, .int tzrq, .int tzrr, .int tzrs, .int tzrd]))]) [0, 1, 2, 3, 4] (by decide) rfl
    exact W.zret (v := (0 : Int32)) hx hb hr rfl (fun t ht hW => ⟨⟨(0 : Int32), (), rfl, rfl, by rw [ht]; exact hP9, hD9⟩, hS.F ht⟩) hS.2.2 dX0_has_17
  · have h := dm_f hc1 h
    refine lv_iload_n hx hb dX0_has_4 rfl (lv_at hl 1 rfl) ?_
    refine lv_aload_n hx hb dX0_has_5 rfl (lv_at hl 0 rfl) ?_
    refine va_get (D := (dC, dI)) (ci := 0) (v := .int tsz) (C := RX0) (T := TX0) (N := 6) hx hb hts hinX0 hown hK hP 0 rfl rfl 5 (by decide) (hts (.fieldLink RX0 32 "FormDesk$ClassList" "size" "I") (by decide +kernel)) (fun _ h9 => h9) rfl dX0_has_6 ?_
    refine lv_icmp_ge (tgt := 16) hx hb dX0_has_9 (by decide) (fun hc2 => ?_) (fun hc2 => ?_)
    · have h := dm_t hc2 h
      refine lv_iconst (v := 0) hx hb dX0_has_16 (by decide) ?_
      obtain hE0 := dm_i1 h
      subst hE0
      rw [hQQ]
      have hP9 := hP.sub (ws' := [(th, .inr (0, [.ref tqa, .ref tqb, .ref tqc, .ref tzh, .int tdd, .int tsz])), (tqa, .inl (cyI, 40, .inl tfa)), (tqb, .inl (cyI, 40, .inl tfb)), (tqc, .inl (cyI, 40, .inl tfc)), (tzh, .inr (1, [.int tzra, .int tzrb, .int tzrc, .int tzrp, .int tzrq, .int tzrr, .int tzrs, .int tzrd]))]) [0, 1, 2, 3, 4] rfl
      have hD9 := hD.sub (ws' := [(th, .inr (0, [.ref tqa, .ref tqb, .ref tqc, .ref tzh, .int tdd, .int tsz])), (tqa, .inl (cyI, 40, .inl tfa)), (tqb, .inl (cyI, 40, .inl tfb)), (tqc, .inl (cyI, 40, .inl tfc)), (tzh, .inr (1, [.int tzra, .int tzrb, .int tzrc, .int tzrp, .int tzrq, .int tzrr, .int tzrs, .int tzrd]))]) [0, 1, 2, 3, 4] (by decide) rfl
      exact W.zret (v := (0 : Int32)) hx hb hr rfl (fun t ht hW => ⟨⟨(0 : Int32), (), rfl, rfl, by rw [ht]; exact hP9, hD9⟩, hS.F ht⟩) hS.2.2 dX0_has_17
    · have h := dm_f hc2 h
      refine lv_iconst (v := 1) hx hb dX0_has_12 (by decide) ?_
      refine lv_goto (tgt := 17) hx hb dX0_has_13 (by decide) ?_
      obtain hE0 := dm_i1 h
      subst hE0
      rw [hQQ]
      have hP9 := hP.sub (ws' := [(th, .inr (0, [.ref tqa, .ref tqb, .ref tqc, .ref tzh, .int tdd, .int tsz])), (tqa, .inl (cyI, 40, .inl tfa)), (tqb, .inl (cyI, 40, .inl tfb)), (tqc, .inl (cyI, 40, .inl tfc)), (tzh, .inr (1, [.int tzra, .int tzrb, .int tzrc, .int tzrp, .int tzrq, .int tzrr, .int tzrs, .int tzrd]))]) [0, 1, 2, 3, 4] rfl
      have hD9 := hD.sub (ws' := [(th, .inr (0, [.ref tqa, .ref tqb, .ref tqc, .ref tzh, .int tdd, .int tsz])), (tqa, .inl (cyI, 40, .inl tfa)), (tqb, .inl (cyI, 40, .inl tfb)), (tqc, .inl (cyI, 40, .inl tfc)), (tzh, .inr (1, [.int tzra, .int tzrb, .int tzrc, .int tzrp, .int tzrq, .int tzrr, .int tzrs, .int tzrd]))]) [0, 1, 2, 3, 4] (by decide) rfl
      exact W.zret (v := (1 : Int32)) hx hb hr rfl (fun t ht hW => ⟨⟨(1 : Int32), (), rfl, rfl, by rw [ht]; exact hP9, hD9⟩, hS.F ht⟩) hS.2.2 dX0_has_17

def f_X0_find_L2 (tfa : Nat → Int32) (tfb : Nat → Int32) (tsz : Int32) (p0 : Int32) (p1 : Int32)  : Nat → Int32 → Option (Int32)
  | 0, _ => none
  | n + 1, v1 =>
    if tsz ≤ v1 then
      some (-1 : Int32)
    else
      dm_g (¬ (v1 < 0 ∨ 40 ≤ (v1).toNatClampNeg)) <|
      if (tfa (v1).toNatClampNeg) = p0 then
        dm_g (¬ (v1 < 0 ∨ 40 ≤ (v1).toNatClampNeg)) <|
        if (tfb (v1).toNatClampNeg) = p1 then
          some v1
        else
          dm_let (v1 + (1 : Int32)) fun x8 =>
          f_X0_find_L2 tfa tfb tsz p0 p1 n x8
      else
        dm_let (v1 + (1 : Int32)) fun x5 =>
        f_X0_find_L2 tfa tfb tsz p0 p1 n x5
def f_X0_find (tfa : Nat → Int32) (tfb : Nat → Int32) (tsz : Int32) (p0 : Int32) (p1 : Int32) : Option (Int32) :=
  f_X0_find_L2 tfa tfb tsz p0 p1 100000 (0 : Int32)
set_option maxHeartbeats 4000000 in
set_option maxRecDepth 100000 in
theorem c_X0_find (l : Launch) (dC : Nat → ClassId) (dI : Nat → Nat → Nat) (cyI cyJ cyC : ClassId) (th tqa tqb tqc tzh : Nat) (sz : Nat) (tfa : Nat → Int32) (tfb : Nat → Int32) (tfc : Nat → Int32) (tdd : Int32) (tsz : Int32) (tzra : Int32) (tzrb : Int32) (tzrc : Int32) (tzrp : Int32) (tzrq : Int32) (tzrr : Int32) (tzrs : Int32) (tzrd : Int32) (p0 : Int32) (p1 : Int32) (rv : Int32) (hf : f_X0_find tfa tfb tsz p0 p1 = some rv) : Met l yX0_find wsX0_find { frames := 0, cells := 0, slots := 0, locals := 0 } (va_Pc [.ref th, .int p0, .int p1] (mc_Pre (dC, dI) (mc_tys cyI cyJ cyC) [(th, .inr (0, [.ref tqa, .ref tqb, .ref tqc, .ref tzh, .int tdd, .int tsz])), (tqa, .inl (cyI, 40, .inl tfa)), (tqb, .inl (cyI, 40, .inl tfb)), (tqc, .inl (cyI, 40, .inl tfc)), (tzh, .inr (1, [.int tzra, .int tzrb, .int tzrc, .int tzrp, .int tzrq, .int tzrr, .int tzrs, .int tzrd]))] sz)) (va_Qi (fun r (_ : Unit) => r = rv) (fun _ t => mc_Post (dC, dI) (va_A [(th, .inr (0, [.ref tqa, .ref tqb, .ref tqc, .ref tzh, .int tdd, .int tsz])), (tqa, .inl (cyI, 40, .inl tfa)), (tqb, .inl (cyI, 40, .inl tfb)), (tqc, .inl (cyI, 40, .inl tfc)), (tzh, .inr (1, [.int tzra, .int tzrb, .int tzrc, .int tzrp, .int tzrq, .int tzrr, .int tzrs, .int tzrd]))] sz) [(th, .inr (0, [.ref tqa, .ref tqb, .ref tqc, .ref tzh, .int tdd, .int tsz])), (tqa, .inl (cyI, 40, .inl tfa)), (tqb, .inl (cyI, 40, .inl tfb)), (tqc, .inl (cyI, 40, .inl tfc)), (tzh, .inr (1, [.int tzra, .int tzrb, .int tzrc, .int tzrp, .int tzrq, .int tzrr, .int tzrs, .int tzrd]))] t) (va_A [(th, .inr (0, [.ref tqa, .ref tqb, .ref tqc, .ref tzh, .int tdd, .int tsz])), (tqa, .inl (cyI, 40, .inl tfa)), (tqb, .inl (cyI, 40, .inl tfb)), (tqc, .inl (cyI, 40, .inl tfc)), (tzh, .inr (1, [.int tzra, .int tzrb, .int tzrc, .int tzrp, .int tzrq, .int tzrr, .int tzrs, .int tzrd]))] sz)) 0 0 (va_A [(th, .inr (0, [.ref tqa, .ref tqb, .ref tqc, .ref tzh, .int tdd, .int tsz])), (tqa, .inl (cyI, 40, .inl tfa)), (tqb, .inl (cyI, 40, .inl tfb)), (tqc, .inl (cyI, 40, .inl tfc)), (tzh, .inr (1, [.int tzra, .int tzrb, .int tzrc, .int tzrp, .int tzrq, .int tzrr, .int tzrs, .int tzrd]))] sz) := by
  refine Met.ofW (cc := cX0_find) (maxL := 4) (ret := (some .int)) (by decide +kernel) rfl ?_
  intro p e s m args below meth c s₁ B hml hv
  obtain ⟨rfl, hsz, hP, hK, hD0, hnw⟩ := hv
  have hx := B.exec
  have hb := B.bytes
  have hr := B.returns
  have hts := atoms_spec (ws := wsX0_find) B.pre
  have hown : s.vm.findClass RX0 = some m.cls := findClass_of_methodNamed B.named
  have hlocks := B.notSynchronized
  have hinX0 : ∀ w ∈ wsX00, w ∈ wsX0_find := by decide +kernel
  subst hsz
  have hD := hD0.self (sz := s.heap.size)
  generalize hAe : va_A [(th, .inr (0, [.ref tqa, .ref tqb, .ref tqc, .ref tzh, .int tdd, .int tsz])), (tqa, .inl (cyI, 40, .inl tfa)), (tqb, .inl (cyI, 40, .inl tfb)), (tqc, .inl (cyI, 40, .inl tfc)), (tzh, .inr (1, [.int tzra, .int tzrb, .int tzrc, .int tzrp, .int tzrq, .int tzrr, .int tzrs, .int tzrd]))] s.heap.size = A at hD ⊢
  have hA : ∀ q : Nat, s.heap.size ≤ q → A q := fun q h => by rw [← hAe]; exact Or.inr h
  have hS : va_S A s.heap s.heap [] := va_S.rf
  have hP : va_P (dC, dI) vwCl [(th, .inr (0, [.ref tqa, .ref tqb, .ref tqc, .ref tzh, .int tdd, .int tsz])), (tqa, .inl (cyI, 40, .inl tfa)), (tqb, .inl (cyI, 40, .inl tfb)), (tqc, .inl (cyI, 40, .inl tfc)), (tzh, .inr (1, [.int tzra, .int tzrb, .int tzrc, .int tzrp, .int tzrq, .int tzrr, .int tzrs, .int tzrd]))] s.heap := hP
  have hl := lv_entry ([.ref th, .int p0, .int p1]) (n := 4) (Nat.le_of_ble_eq_true rfl)
  rw [lg_entry_eq]
  generalize (lg_sl ([.ref th, .int p0, .int p1]) ++ List.replicate (4 - (lg_sl ([.ref th, .int p0, .int p1])).length) Slot.unset).toArray = ls at hl ⊢
  have hl : lv_has ls 4 [(0, .ref th), (1, .int p0), (2, .int p1)] := hl
  obtain ⟨QQ, hQQ⟩ : ∃ Q, Q = MQ below (va_Qi (fun r (_ : Unit) => r = rv) (fun _ t => mc_Post (dC, dI) A [(th, .inr (0, [.ref tqa, .ref tqb, .ref tqc, .ref tzh, .int tdd, .int tsz])), (tqa, .inl (cyI, 40, .inl tfa)), (tqb, .inl (cyI, 40, .inl tfb)), (tqc, .inl (cyI, 40, .inl tfc)), (tzh, .inr (1, [.int tzra, .int tzrb, .int tzrc, .int tzrp, .int tzrq, .int tzrr, .int tzrs, .int tzrd]))] t) A) ([Value.ref th, Value.int p0, Value.int p1] : List Value).toArray s 0 0 A := ⟨_, rfl⟩
  rw [← hQQ]
  have h := hf
  unfold f_X0_find at h
  refine lv_iconst (v := 0) hx hb dX0_find_0 (by decide) ?_
  refine lv_istore_n (lv' := [(3, .int (0 : Int32)), (0, .ref th), (1, .int p0), (2, .int p1)]) hx hb dX0_find_1 rfl hl (by decide) rfl (fun ls hl => ?_)
  have L2 : ∀ (n2 : Nat) (v1 : Int32) (H : Heap) (locs : List Loc) (ls : Array Slot), f_X0_find_L2 tfa tfb tsz p0 p1 n2 v1 = some rv → va_P (dC, dI) vwCl [(th, .inr (0, [.ref tqa, .ref tqb, .ref tqc, .ref tzh, .int tdd, .int tsz])), (tqa, .inl (cyI, 40, .inl tfa)), (tqb, .inl (cyI, 40, .inl tfb)), (tqc, .inl (cyI, 40, .inl tfc)), (tzh, .inr (1, [.int tzra, .int tzrb, .int tzrc, .int tzrp, .int tzrq, .int tzrr, .int tzrs, .int tzrd]))] H → va_D A [(th, .inr (0, [.ref tqa, .ref tqb, .ref tqc, .ref tzh, .int tdd, .int tsz])), (tqa, .inl (cyI, 40, .inl tfa)), (tqb, .inl (cyI, 40, .inl tfb)), (tqc, .inl (cyI, 40, .inl tfc)), (tzh, .inr (1, [.int tzra, .int tzrb, .int tzrc, .int tzrp, .int tzrq, .int tzrr, .int tzrs, .int tzrd]))] → va_S A s.heap H locs → lv_has ls 4 [(3, .int v1), (0, .ref th), (1, .int p0), (2, .int p1)] → W p l e (headSpec wsX0_find { frames := 0, cells := 0, slots := 0, locals := 0 }).room s m ([Value.ref th, Value.int p0, Value.int p1] : List Value).toArray below meth c H locs 0 0 QQ (F0 m 2 ls []) := by
    intro n2
    induction n2 with
    | zero =>
      intro v1 H locs ls h
      exact nomatch (show (none : Option (Int32)) = some _ from h)
    | succ n2 ih2 =>
      intro v1 H locs ls h hP hD hS hl
      rw [f_X0_find_L2] at h
      refine lv_iload_n hx hb dX0_find_2 rfl (lv_at hl 0 rfl) ?_
      refine lv_aload_n hx hb dX0_find_3 rfl (lv_at hl 1 rfl) ?_
      refine va_get (D := (dC, dI)) (ci := 0) (v := .int tsz) (C := RX0) (T := TX0) (N := 6) hx hb hts hinX0 hown hK hP 0 rfl rfl 5 (by decide) (hts (.fieldLink RX0 32 "FormDesk$ClassList" "size" "I") (by decide +kernel)) (fun _ h9 => h9) rfl dX0_find_4 ?_
      refine lv_icmp_ge (tgt := 38) hx hb dX0_find_7 (by decide) (fun hc2 => ?_) (fun hc2 => ?_)
      · have h := dm_t hc2 h
        refine lv_iconst (v := -1) hx hb dX0_find_38 (by decide) ?_
        obtain hE0 := dm_i1 h
        subst hE0
        rw [hQQ]
        have hP9 := hP.sub (ws' := [(th, .inr (0, [.ref tqa, .ref tqb, .ref tqc, .ref tzh, .int tdd, .int tsz])), (tqa, .inl (cyI, 40, .inl tfa)), (tqb, .inl (cyI, 40, .inl tfb)), (tqc, .inl (cyI, 40, .inl tfc)), (tzh, .inr (1, [.int tzra, .int tzrb, .int tzrc, .int tzrp, .int tzrq, .int tzrr, .int tzrs, .int tzrd]))]) [0, 1, 2, 3, 4] rfl
        have hD9 := hD.sub (ws' := [(th, .inr (0, [.ref tqa, .ref tqb, .ref tqc, .ref tzh, .int tdd, .int tsz])), (tqa, .inl (cyI, 40, .inl tfa)), (tqb, .inl (cyI, 40, .inl tfb)), (tqc, .inl (cyI, 40, .inl tfc)), (tzh, .inr (1, [.int tzra, .int tzrb, .int tzrc, .int tzrp, .int tzrq, .int tzrr, .int tzrs, .int tzrd]))]) [0, 1, 2, 3, 4] (by decide) rfl
        exact W.iret (v := (-1 : Int32)) hx hb hr (fun t ht hW => ⟨⟨(-1 : Int32), (), rfl, rfl, by rw [ht]; exact hP9, hD9⟩, hS.F ht⟩) hS.2.2 dX0_find_39
      · have h := dm_f hc2 h
        refine lv_aload_n hx hb dX0_find_10 rfl (lv_at hl 1 rfl) ?_
        refine va_get (D := (dC, dI)) (ci := 0) (v := .ref tqa) (C := RX0) (T := TX0) (N := 6) hx hb hts hinX0 hown hK hP 0 rfl rfl 0 (by decide) (hts (.fieldLink RX0 9 "FormDesk$ClassList" "a" "[I") (by decide +kernel)) (fun _ h9 => h9) rfl dX0_find_11 ?_
        refine lv_iload_n hx hb dX0_find_14 rfl (lv_at hl 0 rfl) ?_
        obtain ⟨hn3, h⟩ := dm_gs h
        refine va_iald hx hb hK hP 1 0 rfl rfl hn3 dX0_find_15 ?_
        refine lv_iload_n hx hb dX0_find_16 rfl (lv_at hl 2 rfl) ?_
        refine lv_icmp_ne (tgt := 32) hx hb dX0_find_17 (by decide) (fun hc4 => ?_) (fun hc4 => ?_)
        · have h := dm_f hc4 h
          obtain ⟨x5, ex5⟩ : ∃ y : Int32, y = (v1 + (1 : Int32)) := ⟨_, rfl⟩
          have h := dm_lu ex5 h
          refine lv_iinc (v := x5) (lv' := [(3, .int x5), (0, .ref th), (1, .int p0), (2, .int p1)]) hx hb dX0_find_32 hl (k := 0) rfl (by rw [ex5]; rfl) (by decide) rfl (fun ls hl => ?_)
          refine lv_goto (tgt := 2) hx hb dX0_find_35 (by decide) ?_
          exact ih2 x5 H _ ls h (hP.sub [0, 1, 2, 3, 4] rfl) (hD.sub [0, 1, 2, 3, 4] (by decide) rfl) hS (lv_sub hl [0, 1, 2, 3] rfl)
        · have h := dm_t hc4 h
          refine lv_aload_n hx hb dX0_find_20 rfl (lv_at hl 1 rfl) ?_
          refine va_get (D := (dC, dI)) (ci := 0) (v := .ref tqb) (C := RX0) (T := TX0) (N := 6) hx hb hts hinX0 hown hK hP 0 rfl rfl 1 (by decide) (hts (.fieldLink RX0 15 "FormDesk$ClassList" "b" "[I") (by decide +kernel)) (fun _ h9 => h9) rfl dX0_find_21 ?_
          refine lv_iload_n hx hb dX0_find_24 rfl (lv_at hl 0 rfl) ?_
          obtain ⟨hn6, h⟩ := dm_gs h
          refine va_iald hx hb hK hP 2 0 rfl rfl hn6 dX0_find_25 ?_
          refine lv_iload_n hx hb dX0_find_26 rfl (lv_at hl 3 rfl) ?_
          refine lv_icmp_ne (tgt := 32) hx hb dX0_find_27 (by decide) (fun hc7 => ?_) (fun hc7 => ?_)
          · have h := dm_f hc7 h
            obtain ⟨x8, ex8⟩ : ∃ y : Int32, y = (v1 + (1 : Int32)) := ⟨_, rfl⟩
            have h := dm_lu ex8 h
            refine lv_iinc (v := x8) (lv' := [(3, .int x8), (0, .ref th), (1, .int p0), (2, .int p1)]) hx hb dX0_find_32 hl (k := 0) rfl (by rw [ex8]; rfl) (by decide) rfl (fun ls hl => ?_)
            refine lv_goto (tgt := 2) hx hb dX0_find_35 (by decide) ?_
            exact ih2 x8 H _ ls h (hP.sub [0, 1, 2, 3, 4] rfl) (hD.sub [0, 1, 2, 3, 4] (by decide) rfl) hS (lv_sub hl [0, 1, 2, 3] rfl)
          · have h := dm_t hc7 h
            refine lv_iload_n hx hb dX0_find_30 rfl (lv_at hl 0 rfl) ?_
            obtain hE0 := dm_i1 h
            subst hE0
            rw [hQQ]
            have hP9 := hP.sub (ws' := [(th, .inr (0, [.ref tqa, .ref tqb, .ref tqc, .ref tzh, .int tdd, .int tsz])), (tqa, .inl (cyI, 40, .inl tfa)), (tqb, .inl (cyI, 40, .inl tfb)), (tqc, .inl (cyI, 40, .inl tfc)), (tzh, .inr (1, [.int tzra, .int tzrb, .int tzrc, .int tzrp, .int tzrq, .int tzrr, .int tzrs, .int tzrd]))]) [0, 1, 2, 3, 4] rfl
            have hD9 := hD.sub (ws' := [(th, .inr (0, [.ref tqa, .ref tqb, .ref tqc, .ref tzh, .int tdd, .int tsz])), (tqa, .inl (cyI, 40, .inl tfa)), (tqb, .inl (cyI, 40, .inl tfb)), (tqc, .inl (cyI, 40, .inl tfc)), (tzh, .inr (1, [.int tzra, .int tzrb, .int tzrc, .int tzrp, .int tzrq, .int tzrr, .int tzrs, .int tzrd]))]) [0, 1, 2, 3, 4] (by decide) rfl
            exact W.iret (v := v1) hx hb hr (fun t ht hW => ⟨⟨v1, (), rfl, rfl, by rw [ht]; exact hP9, hD9⟩, hS.F ht⟩) hS.2.2 dX0_find_31
  exact L2 100000 (0 : Int32) s.heap _ ls h hP hD hS hl

def f_X0_add (tfa : Nat → Int32) (tfb : Nat → Int32) (tfc : Nat → Int32) (tsz : Int32) (p0 : Int32) (p1 : Int32) (p2 : Int32) : Option (Int32 × (Nat → Int32) × (Nat → Int32) × (Nat → Int32) × Int32) :=
  if tsz < (40 : Int32) then
    dm_g (¬ (tsz < 0 ∨ 40 ≤ (tsz).toNatClampNeg)) <|
    dm_g (¬ (tsz < 0 ∨ 40 ≤ (tsz).toNatClampNeg)) <|
    dm_g (¬ (tsz < 0 ∨ 40 ≤ (tsz).toNatClampNeg)) <|
    dm_let (tsz + (1 : Int32)) fun x5 =>
    some ((1 : Int32), (upd tfa (tsz).toNatClampNeg p0), (upd tfb (tsz).toNatClampNeg p1), (upd tfc (tsz).toNatClampNeg p2), x5)
  else
    some ((0 : Int32), tfa, tfb, tfc, tsz)
set_option maxHeartbeats 4000000 in
set_option maxRecDepth 100000 in
theorem c_X0_add (l : Launch) (dC : Nat → ClassId) (dI : Nat → Nat → Nat) (cyI cyJ cyC : ClassId) (th tqa tqb tqc tzh : Nat) (sz : Nat) (tfa : Nat → Int32) (tfb : Nat → Int32) (tfc : Nat → Int32) (tdd : Int32) (tsz : Int32) (tzra : Int32) (tzrb : Int32) (tzrc : Int32) (tzrp : Int32) (tzrq : Int32) (tzrr : Int32) (tzrs : Int32) (tzrd : Int32) (p0 : Int32) (p1 : Int32) (p2 : Int32) (rv : Int32) (tfa' : Nat → Int32) (tfb' : Nat → Int32) (tfc' : Nat → Int32) (tsz' : Int32) (hf : f_X0_add tfa tfb tfc tsz p0 p1 p2 = some (rv, tfa', tfb', tfc', tsz')) : Met l yX0_add wsX0_add { frames := 0, cells := 0, slots := 0, locals := 0 } (va_Pc [.ref th, .int p0, .int p1, .int p2] (mc_Pre (dC, dI) (mc_tys cyI cyJ cyC) [(th, .inr (0, [.ref tqa, .ref tqb, .ref tqc, .ref tzh, .int tdd, .int tsz])), (tqa, .inl (cyI, 40, .inl tfa)), (tqb, .inl (cyI, 40, .inl tfb)), (tqc, .inl (cyI, 40, .inl tfc)), (tzh, .inr (1, [.int tzra, .int tzrb, .int tzrc, .int tzrp, .int tzrq, .int tzrr, .int tzrs, .int tzrd]))] sz)) (va_Qi (fun r (_ : Unit) => r = rv) (fun _ t => mc_Post (dC, dI) (va_A [(th, .inr (0, [.ref tqa, .ref tqb, .ref tqc, .ref tzh, .int tdd, .int tsz])), (tqa, .inl (cyI, 40, .inl tfa)), (tqb, .inl (cyI, 40, .inl tfb)), (tqc, .inl (cyI, 40, .inl tfc)), (tzh, .inr (1, [.int tzra, .int tzrb, .int tzrc, .int tzrp, .int tzrq, .int tzrr, .int tzrs, .int tzrd]))] sz) [(th, .inr (0, [.ref tqa, .ref tqb, .ref tqc, .ref tzh, .int tdd, .int tsz'])), (tqa, .inl (cyI, 40, .inl tfa')), (tqb, .inl (cyI, 40, .inl tfb')), (tqc, .inl (cyI, 40, .inl tfc')), (tzh, .inr (1, [.int tzra, .int tzrb, .int tzrc, .int tzrp, .int tzrq, .int tzrr, .int tzrs, .int tzrd]))] t) (va_A [(th, .inr (0, [.ref tqa, .ref tqb, .ref tqc, .ref tzh, .int tdd, .int tsz])), (tqa, .inl (cyI, 40, .inl tfa)), (tqb, .inl (cyI, 40, .inl tfb)), (tqc, .inl (cyI, 40, .inl tfc)), (tzh, .inr (1, [.int tzra, .int tzrb, .int tzrc, .int tzrp, .int tzrq, .int tzrr, .int tzrs, .int tzrd]))] sz)) 0 0 (va_A [(th, .inr (0, [.ref tqa, .ref tqb, .ref tqc, .ref tzh, .int tdd, .int tsz])), (tqa, .inl (cyI, 40, .inl tfa)), (tqb, .inl (cyI, 40, .inl tfb)), (tqc, .inl (cyI, 40, .inl tfc)), (tzh, .inr (1, [.int tzra, .int tzrb, .int tzrc, .int tzrp, .int tzrq, .int tzrr, .int tzrs, .int tzrd]))] sz) := by
  refine Met.ofW (cc := cX0_add) (maxL := 4) (ret := (some .boolean)) (by decide +kernel) rfl ?_
  intro p e s m args below meth c s₁ B hml hv
  obtain ⟨rfl, hsz, hP, hK, hD0, hnw⟩ := hv
  have hx := B.exec
  have hb := B.bytes
  have hr := B.returns
  have hts := atoms_spec (ws := wsX0_add) B.pre
  have hown : s.vm.findClass RX0 = some m.cls := findClass_of_methodNamed B.named
  have hlocks := B.notSynchronized
  have hinX0 : ∀ w ∈ wsX00, w ∈ wsX0_add := by decide +kernel
  subst hsz
  have hD := hD0.self (sz := s.heap.size)
  generalize hAe : va_A [(th, .inr (0, [.ref tqa, .ref tqb, .ref tqc, .ref tzh, .int tdd, .int tsz])), (tqa, .inl (cyI, 40, .inl tfa)), (tqb, .inl (cyI, 40, .inl tfb)), (tqc, .inl (cyI, 40, .inl tfc)), (tzh, .inr (1, [.int tzra, .int tzrb, .int tzrc, .int tzrp, .int tzrq, .int tzrr, .int tzrs, .int tzrd]))] s.heap.size = A at hD ⊢
  have hA : ∀ q : Nat, s.heap.size ≤ q → A q := fun q h => by rw [← hAe]; exact Or.inr h
  have hS : va_S A s.heap s.heap [] := va_S.rf
  have hP : va_P (dC, dI) vwCl [(th, .inr (0, [.ref tqa, .ref tqb, .ref tqc, .ref tzh, .int tdd, .int tsz])), (tqa, .inl (cyI, 40, .inl tfa)), (tqb, .inl (cyI, 40, .inl tfb)), (tqc, .inl (cyI, 40, .inl tfc)), (tzh, .inr (1, [.int tzra, .int tzrb, .int tzrc, .int tzrp, .int tzrq, .int tzrr, .int tzrs, .int tzrd]))] s.heap := hP
  have hl := lv_entry ([.ref th, .int p0, .int p1, .int p2]) (n := 4) (Nat.le_of_ble_eq_true rfl)
  rw [lg_entry_eq]
  generalize (lg_sl ([.ref th, .int p0, .int p1, .int p2]) ++ List.replicate (4 - (lg_sl ([.ref th, .int p0, .int p1, .int p2])).length) Slot.unset).toArray = ls at hl ⊢
  have hl : lv_has ls 4 [(0, .ref th), (1, .int p0), (2, .int p1), (3, .int p2)] := hl
  obtain ⟨QQ, hQQ⟩ : ∃ Q, Q = MQ below (va_Qi (fun r (_ : Unit) => r = rv) (fun _ t => mc_Post (dC, dI) A [(th, .inr (0, [.ref tqa, .ref tqb, .ref tqc, .ref tzh, .int tdd, .int tsz'])), (tqa, .inl (cyI, 40, .inl tfa')), (tqb, .inl (cyI, 40, .inl tfb')), (tqc, .inl (cyI, 40, .inl tfc')), (tzh, .inr (1, [.int tzra, .int tzrb, .int tzrc, .int tzrp, .int tzrq, .int tzrr, .int tzrs, .int tzrd]))] t) A) ([Value.ref th, Value.int p0, Value.int p1, Value.int p2] : List Value).toArray s 0 0 A := ⟨_, rfl⟩
  rw [← hQQ]
  have h := hf
  unfold f_X0_add at h
  refine lv_aload_n hx hb dX0_add_0 rfl (lv_at hl 0 rfl) ?_
  refine va_get (D := (dC, dI)) (ci := 0) (v := .int tsz) (C := RX0) (T := TX0) (N := 6) hx hb hts hinX0 hown hK hP 0 rfl rfl 5 (by decide) (hts (.fieldLink RX0 32 "FormDesk$ClassList" "size" "I") (by decide +kernel)) (fun _ h9 => h9) rfl dX0_add_1 ?_
  refine lv_bipush (v := 40) hx hb dX0_add_4 (by decide) ?_
  refine lv_icmp_lt (tgt := 11) hx hb dX0_add_6 (by decide) (fun hc1 => ?_) (fun hc1 => ?_)
  · have h := dm_t hc1 h
    refine lv_aload_n hx hb dX0_add_11 rfl (lv_at hl 0 rfl) ?_
    refine va_get (D := (dC, dI)) (ci := 0) (v := .ref tqa) (C := RX0) (T := TX0) (N := 6) hx hb hts hinX0 hown hK hP 0 rfl rfl 0 (by decide) (hts (.fieldLink RX0 9 "FormDesk$ClassList" "a" "[I") (by decide +kernel)) (fun _ h9 => h9) rfl dX0_add_12 ?_
    refine lv_aload_n hx hb dX0_add_15 rfl (lv_at hl 0 rfl) ?_
    refine va_get (D := (dC, dI)) (ci := 0) (v := .int tsz) (C := RX0) (T := TX0) (N := 6) hx hb hts hinX0 hown hK hP 0 rfl rfl 5 (by decide) (hts (.fieldLink RX0 32 "FormDesk$ClassList" "size" "I") (by decide +kernel)) (fun _ h9 => h9) rfl dX0_add_16 ?_
    refine lv_iload_n hx hb dX0_add_19 rfl (lv_at hl 1 rfl) ?_
    obtain ⟨hn2, h⟩ := dm_gs h
    refine va_iast hx hb hK hP hD hS 1 0 rfl rfl hn2 dX0_add_20 (fun H locs hP hD hS => ?_)
    have hP : va_P (dC, dI) vwCl [(th, .inr (0, [.ref tqa, .ref tqb, .ref tqc, .ref tzh, .int tdd, .int tsz])), (tqa, .inl (cyI, 40, .inl (upd tfa (tsz).toNatClampNeg p0))), (tqb, .inl (cyI, 40, .inl tfb)), (tqc, .inl (cyI, 40, .inl tfc)), (tzh, .inr (1, [.int tzra, .int tzrb, .int tzrc, .int tzrp, .int tzrq, .int tzrr, .int tzrs, .int tzrd]))] H := hP
    have hD : va_D A [(th, .inr (0, [.ref tqa, .ref tqb, .ref tqc, .ref tzh, .int tdd, .int tsz])), (tqa, .inl (cyI, 40, .inl (upd tfa (tsz).toNatClampNeg p0))), (tqb, .inl (cyI, 40, .inl tfb)), (tqc, .inl (cyI, 40, .inl tfc)), (tzh, .inr (1, [.int tzra, .int tzrb, .int tzrc, .int tzrp, .int tzrq, .int tzrr, .int tzrs, .int tzrd]))] := hD
    refine lv_aload_n hx hb dX0_add_21 rfl (lv_at hl 0 rfl) ?_
    refine va_get (D := (dC, dI)) (ci := 0) (v := .ref tqb) (C := RX0) (T := TX0) (N := 6) hx hb hts hinX0 hown hK hP 0 rfl rfl 1 (by decide) (hts (.fieldLink RX0 15 "FormDesk$ClassList" "b" "[I") (by decide +kernel)) (fun _ h9 => h9) rfl dX0_add_22 ?_
    refine lv_aload_n hx hb dX0_add_25 rfl (lv_at hl 0 rfl) ?_
    refine va_get (D := (dC, dI)) (ci := 0) (v := .int tsz) (C := RX0) (T := TX0) (N := 6) hx hb hts hinX0 hown hK hP 0 rfl rfl 5 (by decide) (hts (.fieldLink RX0 32 "FormDesk$ClassList" "size" "I") (by decide +kernel)) (fun _ h9 => h9) rfl dX0_add_26 ?_
    refine lv_iload_n hx hb dX0_add_29 rfl (lv_at hl 2 rfl) ?_
    obtain ⟨hn3, h⟩ := dm_gs h
    refine va_iast hx hb hK hP hD hS 2 0 rfl rfl hn3 dX0_add_30 (fun H locs hP hD hS => ?_)
    have hP : va_P (dC, dI) vwCl [(th, .inr (0, [.ref tqa, .ref tqb, .ref tqc, .ref tzh, .int tdd, .int tsz])), (tqa, .inl (cyI, 40, .inl (upd tfa (tsz).toNatClampNeg p0))), (tqb, .inl (cyI, 40, .inl (upd tfb (tsz).toNatClampNeg p1))), (tqc, .inl (cyI, 40, .inl tfc)), (tzh, .inr (1, [.int tzra, .int tzrb, .int tzrc, .int tzrp, .int tzrq, .int tzrr, .int tzrs, .int tzrd]))] H := hP
    have hD : va_D A [(th, .inr (0, [.ref tqa, .ref tqb, .ref tqc, .ref tzh, .int tdd, .int tsz])), (tqa, .inl (cyI, 40, .inl (upd tfa (tsz).toNatClampNeg p0))), (tqb, .inl (cyI, 40, .inl (upd tfb (tsz).toNatClampNeg p1))), (tqc, .inl (cyI, 40, .inl tfc)), (tzh, .inr (1, [.int tzra, .int tzrb, .int tzrc, .int tzrp, .int tzrq, .int tzrr, .int tzrs, .int tzrd]))] := hD
    refine lv_aload_n hx hb dX0_add_31 rfl (lv_at hl 0 rfl) ?_
    refine va_get (D := (dC, dI)) (ci := 0) (v := .ref tqc) (C := RX0) (T := TX0) (N := 6) hx hb hts hinX0 hown hK hP 0 rfl rfl 2 (by decide) (hts (.fieldLink RX0 18 "FormDesk$ClassList" "c" "[I") (by decide +kernel)) (fun _ h9 => h9) rfl dX0_add_32 ?_
    refine lv_aload_n hx hb dX0_add_35 rfl (lv_at hl 0 rfl) ?_
    refine va_get (D := (dC, dI)) (ci := 0) (v := .int tsz) (C := RX0) (T := TX0) (N := 6) hx hb hts hinX0 hown hK hP 0 rfl rfl 5 (by decide) (hts (.fieldLink RX0 32 "FormDesk$ClassList" "size" "I") (by decide +kernel)) (fun _ h9 => h9) rfl dX0_add_36 ?_
    refine lv_iload_n hx hb dX0_add_39 rfl (lv_at hl 3 rfl) ?_
    obtain ⟨hn4, h⟩ := dm_gs h
    refine va_iast hx hb hK hP hD hS 3 0 rfl rfl hn4 dX0_add_40 (fun H locs hP hD hS => ?_)
    have hP : va_P (dC, dI) vwCl [(th, .inr (0, [.ref tqa, .ref tqb, .ref tqc, .ref tzh, .int tdd, .int tsz])), (tqa, .inl (cyI, 40, .inl (upd tfa (tsz).toNatClampNeg p0))), (tqb, .inl (cyI, 40, .inl (upd tfb (tsz).toNatClampNeg p1))), (tqc, .inl (cyI, 40, .inl (upd tfc (tsz).toNatClampNeg p2))), (tzh, .inr (1, [.int tzra, .int tzrb, .int tzrc, .int tzrp, .int tzrq, .int tzrr, .int tzrs, .int tzrd]))] H := hP
    have hD : va_D A [(th, .inr (0, [.ref tqa, .ref tqb, .ref tqc, .ref tzh, .int tdd, .int tsz])), (tqa, .inl (cyI, 40, .inl (upd tfa (tsz).toNatClampNeg p0))), (tqb, .inl (cyI, 40, .inl (upd tfb (tsz).toNatClampNeg p1))), (tqc, .inl (cyI, 40, .inl (upd tfc (tsz).toNatClampNeg p2))), (tzh, .inr (1, [.int tzra, .int tzrb, .int tzrc, .int tzrp, .int tzrq, .int tzrr, .int tzrs, .int tzrd]))] := hD
    refine lv_aload_n hx hb dX0_add_41 rfl (lv_at hl 0 rfl) ?_
    refine lv_dup hx hb dX0_add_42 rfl ?_
    refine va_get (D := (dC, dI)) (ci := 0) (v := .int tsz) (C := RX0) (T := TX0) (N := 6) hx hb hts hinX0 hown hK hP 0 rfl rfl 5 (by decide) (hts (.fieldLink RX0 32 "FormDesk$ClassList" "size" "I") (by decide +kernel)) (fun _ h9 => h9) rfl dX0_add_43 ?_
    refine lv_iconst (v := 1) hx hb dX0_add_46 (by decide) ?_
    refine lv_iadd hx hb dX0_add_47 ?_
    refine lv_topi (fun x5 ex5 => ?_)
    have h := dm_lu ex5 h
    refine va_put (D := (dC, dI)) (ci := 0) (v := .int x5) (ty := .int) (C := RX0) (T := TX0) (N := 6) hx hb hts hinX0 tyX0 tyX0_ok nmX0 hown hK hP hD hS 0 rfl rfl 5 (by decide) (hts (.fieldLink RX0 32 "FormDesk$ClassList" "size" "I") (by decide +kernel)) (fun _ h9 => h9) rfl (by decide +kernel) rfl rfl (Nat.le_of_ble_eq_true rfl) dX0_add_48 (fun H locs hP hD hS => ?_)
    have hP : va_P (dC, dI) vwCl [(th, .inr (0, [.ref tqa, .ref tqb, .ref tqc, .ref tzh, .int tdd, .int x5])), (tqa, .inl (cyI, 40, .inl (upd tfa (tsz).toNatClampNeg p0))), (tqb, .inl (cyI, 40, .inl (upd tfb (tsz).toNatClampNeg p1))), (tqc, .inl (cyI, 40, .inl (upd tfc (tsz).toNatClampNeg p2))), (tzh, .inr (1, [.int tzra, .int tzrb, .int tzrc, .int tzrp, .int tzrq, .int tzrr, .int tzrs, .int tzrd]))] H := hP
    have hD : va_D A [(th, .inr (0, [.ref tqa, .ref tqb, .ref tqc, .ref tzh, .int tdd, .int x5])), (tqa, .inl (cyI, 40, .inl (upd tfa (tsz).toNatClampNeg p0))), (tqb, .inl (cyI, 40, .inl (upd tfb (tsz).toNatClampNeg p1))), (tqc, .inl (cyI, 40, .inl (upd tfc (tsz).toNatClampNeg p2))), (tzh, .inr (1, [.int tzra, .int tzrb, .int tzrc, .int tzrp, .int tzrq, .int tzrr, .int tzrs, .int tzrd]))] := hD
    refine lv_iconst (v := 1) hx hb dX0_add_51 (by decide) ?_
    obtain ⟨hE0, hE1, hE2, hE3, hE4⟩ := dm_i5 h
    subst hE0; subst hE1; subst hE2; subst hE3; subst hE4
    rw [hQQ]
    have hP9 := hP.sub (ws' := [(th, .inr (0, [.ref tqa, .ref tqb, .ref tqc, .ref tzh, .int tdd, .int x5])), (tqa, .inl (cyI, 40, .inl (upd tfa (tsz).toNatClampNeg p0))), (tqb, .inl (cyI, 40, .inl (upd tfb (tsz).toNatClampNeg p1))), (tqc, .inl (cyI, 40, .inl (upd tfc (tsz).toNatClampNeg p2))), (tzh, .inr (1, [.int tzra, .int tzrb, .int tzrc, .int tzrp, .int tzrq, .int tzrr, .int tzrs, .int tzrd]))]) [0, 1, 2, 3, 4] rfl
    have hD9 := hD.sub (ws' := [(th, .inr (0, [.ref tqa, .ref tqb, .ref tqc, .ref tzh, .int tdd, .int x5])), (tqa, .inl (cyI, 40, .inl (upd tfa (tsz).toNatClampNeg p0))), (tqb, .inl (cyI, 40, .inl (upd tfb (tsz).toNatClampNeg p1))), (tqc, .inl (cyI, 40, .inl (upd tfc (tsz).toNatClampNeg p2))), (tzh, .inr (1, [.int tzra, .int tzrb, .int tzrc, .int tzrp, .int tzrq, .int tzrr, .int tzrs, .int tzrd]))]) [0, 1, 2, 3, 4] (by decide) rfl
    exact W.zret (v := (1 : Int32)) hx hb hr rfl (fun t ht hW => ⟨⟨(1 : Int32), (), rfl, rfl, by rw [ht]; exact hP9, hD9⟩, hS.F ht⟩) hS.2.2 dX0_add_52
  · have h := dm_f hc1 h
    refine lv_iconst (v := 0) hx hb dX0_add_9 (by decide) ?_
    obtain ⟨hE0, hE1, hE2, hE3, hE4⟩ := dm_i5 h
    subst hE0; subst hE1; subst hE2; subst hE3; subst hE4
    rw [hQQ]
    have hP9 := hP.sub (ws' := [(th, .inr (0, [.ref tqa, .ref tqb, .ref tqc, .ref tzh, .int tdd, .int tsz])), (tqa, .inl (cyI, 40, .inl tfa)), (tqb, .inl (cyI, 40, .inl tfb)), (tqc, .inl (cyI, 40, .inl tfc)), (tzh, .inr (1, [.int tzra, .int tzrb, .int tzrc, .int tzrp, .int tzrq, .int tzrr, .int tzrs, .int tzrd]))]) [0, 1, 2, 3, 4] rfl
    have hD9 := hD.sub (ws' := [(th, .inr (0, [.ref tqa, .ref tqb, .ref tqc, .ref tzh, .int tdd, .int tsz])), (tqa, .inl (cyI, 40, .inl tfa)), (tqb, .inl (cyI, 40, .inl tfb)), (tqc, .inl (cyI, 40, .inl tfc)), (tzh, .inr (1, [.int tzra, .int tzrb, .int tzrc, .int tzrp, .int tzrq, .int tzrr, .int tzrs, .int tzrd]))]) [0, 1, 2, 3, 4] (by decide) rfl
    exact W.zret (v := (0 : Int32)) hx hb hr rfl (fun t ht hW => ⟨⟨(0 : Int32), (), rfl, rfl, by rw [ht]; exact hP9, hD9⟩, hS.F ht⟩) hS.2.2 dX0_add_10

def f_X0_addBoth (tfa : Nat → Int32) (tfb : Nat → Int32) (tfc : Nat → Int32) (tdd : Int32) (tsz : Int32) (p0 : Int32) (p1 : Int32) : Option (Int32 × (Nat → Int32) × (Nat → Int32) × (Nat → Int32) × Int32) :=
  dm_let ((p1 * p1) - tdd) fun x1 =>
  dm_b1 (f_X3_divides ((4 : Int32) * p0) x1) fun r2 =>
  if r2 = 0 then
    some ((1 : Int32), tfa, tfb, tfc, tsz)
  else
    dm_g (¬ ((4 : Int32) * p0) = 0) <|
    dm_let (x1 / ((4 : Int32) * p0)) fun x6 =>
    if x6 < p0 then
      some ((1 : Int32), tfa, tfb, tfc, tsz)
    else
      dm_b1 (f_X3_isPrimitive p0 p1 x6) fun r8 =>
      if r8 = 0 then
        some ((1 : Int32), tfa, tfb, tfc, tsz)
      else
        dm_b5 (f_X0_add tfa tfb tfc tsz p0 p1 x6) fun r11 w12 w13 w14 w15 =>
        if p1 = 0 then
          dm_g (r11 = 0 ∨ r11 = 1) <|
          some (r11, w12, w13, w14, w15)
        else
          if p1 = p0 then
            dm_g (r11 = 0 ∨ r11 = 1) <|
            some (r11, w12, w13, w14, w15)
          else
            if p0 = x6 then
              dm_g (r11 = 0 ∨ r11 = 1) <|
              some (r11, w12, w13, w14, w15)
            else
              if r11 = 0 then
                some ((0 : Int32), w12, w13, w14, w15)
              else
                dm_b5 (f_X0_add w12 w13 w14 w15 p0 (-p1) x6) fun r23 w24 w25 w26 w27 =>
                if r23 = 0 then
                  some ((0 : Int32), w24, w25, w26, w27)
                else
                  some ((1 : Int32), w24, w25, w26, w27)
set_option maxHeartbeats 4000000 in
set_option maxRecDepth 100000 in
theorem c_X0_addBoth (l : Launch) (dC : Nat → ClassId) (dI : Nat → Nat → Nat) (cyI cyJ cyC : ClassId) (th tqa tqb tqc tzh : Nat) (sz : Nat) (tfa : Nat → Int32) (tfb : Nat → Int32) (tfc : Nat → Int32) (tdd : Int32) (tsz : Int32) (tzra : Int32) (tzrb : Int32) (tzrc : Int32) (tzrp : Int32) (tzrq : Int32) (tzrr : Int32) (tzrs : Int32) (tzrd : Int32) (p0 : Int32) (p1 : Int32) (rv : Int32) (tfa' : Nat → Int32) (tfb' : Nat → Int32) (tfc' : Nat → Int32) (tsz' : Int32) (hf : f_X0_addBoth tfa tfb tfc tdd tsz p0 p1 = some (rv, tfa', tfb', tfc', tsz')) : Met l yX0_addBoth wsX0_addBoth { frames := 3, cells := 0, slots := 0, locals := 60 } (va_Pc [.ref th, .int p0, .int p1] (mc_Pre (dC, dI) (mc_tys cyI cyJ cyC) [(th, .inr (0, [.ref tqa, .ref tqb, .ref tqc, .ref tzh, .int tdd, .int tsz])), (tqa, .inl (cyI, 40, .inl tfa)), (tqb, .inl (cyI, 40, .inl tfb)), (tqc, .inl (cyI, 40, .inl tfc)), (tzh, .inr (1, [.int tzra, .int tzrb, .int tzrc, .int tzrp, .int tzrq, .int tzrr, .int tzrs, .int tzrd]))] sz)) (va_Qi (fun r (_ : Unit) => r = rv) (fun _ t => mc_Post (dC, dI) (va_A [(th, .inr (0, [.ref tqa, .ref tqb, .ref tqc, .ref tzh, .int tdd, .int tsz])), (tqa, .inl (cyI, 40, .inl tfa)), (tqb, .inl (cyI, 40, .inl tfb)), (tqc, .inl (cyI, 40, .inl tfc)), (tzh, .inr (1, [.int tzra, .int tzrb, .int tzrc, .int tzrp, .int tzrq, .int tzrr, .int tzrs, .int tzrd]))] sz) [(th, .inr (0, [.ref tqa, .ref tqb, .ref tqc, .ref tzh, .int tdd, .int tsz'])), (tqa, .inl (cyI, 40, .inl tfa')), (tqb, .inl (cyI, 40, .inl tfb')), (tqc, .inl (cyI, 40, .inl tfc')), (tzh, .inr (1, [.int tzra, .int tzrb, .int tzrc, .int tzrp, .int tzrq, .int tzrr, .int tzrs, .int tzrd]))] t) (va_A [(th, .inr (0, [.ref tqa, .ref tqb, .ref tqc, .ref tzh, .int tdd, .int tsz])), (tqa, .inl (cyI, 40, .inl tfa)), (tqb, .inl (cyI, 40, .inl tfb)), (tqc, .inl (cyI, 40, .inl tfc)), (tzh, .inr (1, [.int tzra, .int tzrb, .int tzrc, .int tzrp, .int tzrq, .int tzrr, .int tzrs, .int tzrd]))] sz)) 0 0 (va_A [(th, .inr (0, [.ref tqa, .ref tqb, .ref tqc, .ref tzh, .int tdd, .int tsz])), (tqa, .inl (cyI, 40, .inl tfa)), (tqb, .inl (cyI, 40, .inl tfb)), (tqc, .inl (cyI, 40, .inl tfc)), (tzh, .inr (1, [.int tzra, .int tzrb, .int tzrc, .int tzrp, .int tzrq, .int tzrr, .int tzrs, .int tzrd]))] sz) := by
  refine Met.ofW (cc := cX0_addBoth) (maxL := 6) (ret := (some .boolean)) (by decide +kernel) rfl ?_
  intro p e s m args below meth c s₁ B hml hv
  obtain ⟨rfl, hsz, hP, hK, hD0, hnw⟩ := hv
  have hx := B.exec
  have hb := B.bytes
  have hr := B.returns
  have hts := atoms_spec (ws := wsX0_addBoth) B.pre
  have hown : s.vm.findClass RX0 = some m.cls := findClass_of_methodNamed B.named
  have hlocks := B.notSynchronized
  have hinX0 : ∀ w ∈ wsX00, w ∈ wsX0_addBoth := by decide +kernel
  subst hsz
  have hD := hD0.self (sz := s.heap.size)
  generalize hAe : va_A [(th, .inr (0, [.ref tqa, .ref tqb, .ref tqc, .ref tzh, .int tdd, .int tsz])), (tqa, .inl (cyI, 40, .inl tfa)), (tqb, .inl (cyI, 40, .inl tfb)), (tqc, .inl (cyI, 40, .inl tfc)), (tzh, .inr (1, [.int tzra, .int tzrb, .int tzrc, .int tzrp, .int tzrq, .int tzrr, .int tzrs, .int tzrd]))] s.heap.size = A at hD ⊢
  have hA : ∀ q : Nat, s.heap.size ≤ q → A q := fun q h => by rw [← hAe]; exact Or.inr h
  have hS : va_S A s.heap s.heap [] := va_S.rf
  have hP : va_P (dC, dI) vwCl [(th, .inr (0, [.ref tqa, .ref tqb, .ref tqc, .ref tzh, .int tdd, .int tsz])), (tqa, .inl (cyI, 40, .inl tfa)), (tqb, .inl (cyI, 40, .inl tfb)), (tqc, .inl (cyI, 40, .inl tfc)), (tzh, .inr (1, [.int tzra, .int tzrb, .int tzrc, .int tzrp, .int tzrq, .int tzrr, .int tzrs, .int tzrd]))] s.heap := hP
  have hl := lv_entry ([.ref th, .int p0, .int p1]) (n := 6) (Nat.le_of_ble_eq_true rfl)
  rw [lg_entry_eq]
  generalize (lg_sl ([.ref th, .int p0, .int p1]) ++ List.replicate (6 - (lg_sl ([.ref th, .int p0, .int p1])).length) Slot.unset).toArray = ls at hl ⊢
  have hl : lv_has ls 6 [(0, .ref th), (1, .int p0), (2, .int p1)] := hl
  obtain ⟨QQ, hQQ⟩ : ∃ Q, Q = MQ below (va_Qi (fun r (_ : Unit) => r = rv) (fun _ t => mc_Post (dC, dI) A [(th, .inr (0, [.ref tqa, .ref tqb, .ref tqc, .ref tzh, .int tdd, .int tsz'])), (tqa, .inl (cyI, 40, .inl tfa')), (tqb, .inl (cyI, 40, .inl tfb')), (tqc, .inl (cyI, 40, .inl tfc')), (tzh, .inr (1, [.int tzra, .int tzrb, .int tzrc, .int tzrp, .int tzrq, .int tzrr, .int tzrs, .int tzrd]))] t) A) ([Value.ref th, Value.int p0, Value.int p1] : List Value).toArray s 0 0 A := ⟨_, rfl⟩
  rw [← hQQ]
  have h := hf
  unfold f_X0_addBoth at h
  refine lv_iload_n hx hb dX0_addBoth_0 rfl (lv_at hl 2 rfl) ?_
  refine lv_iload_n hx hb dX0_addBoth_1 rfl (lv_at hl 2 rfl) ?_
  refine lv_imul hx hb dX0_addBoth_2 ?_
  refine lv_aload_n hx hb dX0_addBoth_3 rfl (lv_at hl 0 rfl) ?_
  refine va_get (D := (dC, dI)) (ci := 0) (v := .int tdd) (C := RX0) (T := TX0) (N := 6) hx hb hts hinX0 hown hK hP 0 rfl rfl 4 (by decide) (hts (.fieldLink RX0 28 "FormDesk$ClassList" "discriminant" "I") (by decide +kernel)) (fun _ h9 => h9) rfl dX0_addBoth_4 ?_
  refine lv_isub hx hb dX0_addBoth_7 ?_
  refine lv_topi (fun x1 ex1 => ?_)
  have h := dm_lu ex1 h
  refine lv_istore_n (lv' := [(3, .int x1), (0, .ref th), (1, .int p0), (2, .int p1)]) hx hb dX0_addBoth_8 rfl hl (by decide) rfl (fun ls hl => ?_)
  refine lv_iconst (v := 4) hx hb dX0_addBoth_9 (by decide) ?_
  refine lv_iload_n hx hb dX0_addBoth_10 rfl (lv_at hl 2 rfl) ?_
  refine lv_imul hx hb dX0_addBoth_11 ?_
  refine lv_iload_n hx hb dX0_addBoth_12 rfl (lv_at hl 0 rfl) ?_
  obtain ⟨r2, hk3, h⟩ := dm_b1s h
  refine mc_i (wr := [(th, .inr (0, [.ref tqa, .ref tqb, .ref tqc, .ref tzh, .int tdd, .int tsz])), (tqa, .inl (cyI, 40, .inl tfa)), (tqb, .inl (cyI, 40, .inl tfb)), (tqc, .inl (cyI, 40, .inl tfc)), (tzh, .inr (1, [.int tzra, .int tzrb, .int tzrc, .int tzrp, .int tzrq, .int tzrr, .int tzrs, .int tzrd]))]) (va_runSN (As := [.int ((4 : Int32) * p0), .int x1]) (rest := []) ⟨hx, hb, hml, hown, hts⟩ (c_X3_divides l dC dI cyI cyJ cyC s.heap.size ((4 : Int32) * p0) x1 r2 hk3) ⟨va_cnB 2 hts gX0_addBoth_X3_divides_n51 rfl rfl rfl (hnw _ (by decide +kernel : Cond.methodLinkNest RX0 51 yX3_divides "FormDesk" ∈ mc_nws)) (hts (.initialized RX3) (by decide +kernel)) (by decide +kernel) ⟨(Nat.le_of_ble_eq_true rfl), (Nat.le_of_ble_eq_true rfl)⟩, hts (.static yX3_divides) (by decide +kernel), trivial⟩ (mc_preS hK (hP.sub (ws' := []) [] rfl) (hD.sub (ws' := []) [] (by decide) rfl) hnw) rfl rfl hl.1 rfl (lv_room (Nat.le_of_ble_eq_true rfl)) dX0_addBoth_13 ⟨Nat.zero_le _, Nat.zero_le _⟩) hP hD hS hA [] [0, 1, 2, 3, 4] rfl rfl rfl (by decide) (fun H locs hP hD hS => ?_)
  have hP : va_P (dC, dI) vwCl [(th, .inr (0, [.ref tqa, .ref tqb, .ref tqc, .ref tzh, .int tdd, .int tsz])), (tqa, .inl (cyI, 40, .inl tfa)), (tqb, .inl (cyI, 40, .inl tfb)), (tqc, .inl (cyI, 40, .inl tfc)), (tzh, .inr (1, [.int tzra, .int tzrb, .int tzrc, .int tzrp, .int tzrq, .int tzrr, .int tzrs, .int tzrd]))] H := hP
  have hD : va_D A [(th, .inr (0, [.ref tqa, .ref tqb, .ref tqc, .ref tzh, .int tdd, .int tsz])), (tqa, .inl (cyI, 40, .inl tfa)), (tqb, .inl (cyI, 40, .inl tfb)), (tqc, .inl (cyI, 40, .inl tfc)), (tzh, .inr (1, [.int tzra, .int tzrb, .int tzrc, .int tzrp, .int tzrq, .int tzrr, .int tzrs, .int tzrd]))] := hD
  refine lv_if_ne (tgt := 21) hx hb dX0_addBoth_16 (by decide) (fun hc4 => ?_) (fun hc4 => ?_)
  · have h := dm_f hc4 h
    refine lv_iload_n hx hb dX0_addBoth_21 rfl (lv_at hl 0 rfl) ?_
    refine lv_iconst (v := 4) hx hb dX0_addBoth_22 (by decide) ?_
    refine lv_iload_n hx hb dX0_addBoth_23 rfl (lv_at hl 2 rfl) ?_
    refine lv_imul hx hb dX0_addBoth_24 ?_
    obtain ⟨hn5, h⟩ := dm_gs h
    refine lv_idiv hx hb dX0_addBoth_25 hn5 ?_
    refine lv_topi (fun x6 ex6 => ?_)
    have h := dm_lu ex6 h
    refine lv_istore (lv' := [(4, .int x6), (3, .int x1), (0, .ref th), (1, .int p0), (2, .int p1)]) hx hb dX0_addBoth_26 hl (by decide) rfl (fun ls hl => ?_)
    refine lv_iload hx hb dX0_addBoth_28 (lv_at hl 0 rfl) ?_
    refine lv_iload_n hx hb dX0_addBoth_30 rfl (lv_at hl 3 rfl) ?_
    refine lv_icmp_lt (tgt := 44) hx hb dX0_addBoth_31 (by decide) (fun hc7 => ?_) (fun hc7 => ?_)
    · have h := dm_t hc7 h
      refine lv_iconst (v := 1) hx hb dX0_addBoth_44 (by decide) ?_
      obtain ⟨hE0, hE1, hE2, hE3, hE4⟩ := dm_i5 h
      subst hE0; subst hE1; subst hE2; subst hE3; subst hE4
      rw [hQQ]
      have hP9 := hP.sub (ws' := [(th, .inr (0, [.ref tqa, .ref tqb, .ref tqc, .ref tzh, .int tdd, .int tsz])), (tqa, .inl (cyI, 40, .inl tfa)), (tqb, .inl (cyI, 40, .inl tfb)), (tqc, .inl (cyI, 40, .inl tfc)), (tzh, .inr (1, [.int tzra, .int tzrb, .int tzrc, .int tzrp, .int tzrq, .int tzrr, .int tzrs, .int tzrd]))]) [0, 1, 2, 3, 4] rfl
      have hD9 := hD.sub (ws' := [(th, .inr (0, [.ref tqa, .ref tqb, .ref tqc, .ref tzh, .int tdd, .int tsz])), (tqa, .inl (cyI, 40, .inl tfa)), (tqb, .inl (cyI, 40, .inl tfb)), (tqc, .inl (cyI, 40, .inl tfc)), (tzh, .inr (1, [.int tzra, .int tzrb, .int tzrc, .int tzrp, .int tzrq, .int tzrr, .int tzrs, .int tzrd]))]) [0, 1, 2, 3, 4] (by decide) rfl
      exact W.zret (v := (1 : Int32)) hx hb hr rfl (fun t ht hW => ⟨⟨(1 : Int32), (), rfl, rfl, by rw [ht]; exact hP9, hD9⟩, hS.F ht⟩) hS.2.2 dX0_addBoth_45
    · have h := dm_f hc7 h
      refine lv_iload_n hx hb dX0_addBoth_34 rfl (lv_at hl 3 rfl) ?_
      refine lv_iload_n hx hb dX0_addBoth_35 rfl (lv_at hl 4 rfl) ?_
      refine lv_iload hx hb dX0_addBoth_36 (lv_at hl 0 rfl) ?_
      obtain ⟨r8, hk9, h⟩ := dm_b1s h
      refine mc_i (wr := [(th, .inr (0, [.ref tqa, .ref tqb, .ref tqc, .ref tzh, .int tdd, .int tsz])), (tqa, .inl (cyI, 40, .inl tfa)), (tqb, .inl (cyI, 40, .inl tfb)), (tqc, .inl (cyI, 40, .inl tfc)), (tzh, .inr (1, [.int tzra, .int tzrb, .int tzrc, .int tzrp, .int tzrq, .int tzrr, .int tzrs, .int tzrd]))]) (va_runSN (As := [.int p0, .int p1, .int x6]) (rest := []) ⟨hx, hb, hml, hown, hts⟩ (c_X3_isPrimitive l dC dI cyI cyJ cyC H.size p0 p1 x6 r8 hk9) ⟨va_cnB 3 hts gX0_addBoth_X3_isPrimitive_n89 rfl rfl rfl (hnw _ (by decide +kernel : Cond.methodLinkNest RX0 89 yX3_isPrimitive "FormDesk" ∈ mc_nws)) (hts (.initialized RX3) (by decide +kernel)) (by decide +kernel) ⟨(Nat.le_of_ble_eq_true rfl), (Nat.le_of_ble_eq_true rfl)⟩, hts (.static yX3_isPrimitive) (by decide +kernel), trivial⟩ (mc_preS hK (hP.sub (ws' := []) [] rfl) (hD.sub (ws' := []) [] (by decide) rfl) hnw) rfl rfl hl.1 rfl (lv_room (Nat.le_of_ble_eq_true rfl)) dX0_addBoth_38 ⟨Nat.zero_le _, Nat.zero_le _⟩) hP hD hS hA [] [0, 1, 2, 3, 4] rfl rfl rfl (by decide) (fun H locs hP hD hS => ?_)
      have hP : va_P (dC, dI) vwCl [(th, .inr (0, [.ref tqa, .ref tqb, .ref tqc, .ref tzh, .int tdd, .int tsz])), (tqa, .inl (cyI, 40, .inl tfa)), (tqb, .inl (cyI, 40, .inl tfb)), (tqc, .inl (cyI, 40, .inl tfc)), (tzh, .inr (1, [.int tzra, .int tzrb, .int tzrc, .int tzrp, .int tzrq, .int tzrr, .int tzrs, .int tzrd]))] H := hP
      have hD : va_D A [(th, .inr (0, [.ref tqa, .ref tqb, .ref tqc, .ref tzh, .int tdd, .int tsz])), (tqa, .inl (cyI, 40, .inl tfa)), (tqb, .inl (cyI, 40, .inl tfb)), (tqc, .inl (cyI, 40, .inl tfc)), (tzh, .inr (1, [.int tzra, .int tzrb, .int tzrc, .int tzrp, .int tzrq, .int tzrr, .int tzrs, .int tzrd]))] := hD
      refine lv_if_ne (tgt := 46) hx hb dX0_addBoth_41 (by decide) (fun hc10 => ?_) (fun hc10 => ?_)
      · have h := dm_f hc10 h
        refine lv_aload_n hx hb dX0_addBoth_46 rfl (lv_at hl 2 rfl) ?_
        refine lv_iload_n hx hb dX0_addBoth_47 rfl (lv_at hl 3 rfl) ?_
        refine lv_iload_n hx hb dX0_addBoth_48 rfl (lv_at hl 4 rfl) ?_
        refine lv_iload hx hb dX0_addBoth_49 (lv_at hl 0 rfl) ?_
        obtain ⟨r11, w12, w13, w14, w15, hk16, h⟩ := dm_b5s h
        refine mc_i (wr := []) (va_runV (As := [.int p0, .int p1, .int x6]) (rest := []) ⟨hx, hb, hml, hown, hts⟩ (c_X0_add l dC dI cyI cyJ cyC th tqa tqb tqc tzh H.size tfa tfb tfc tdd tsz tzra tzrb tzrc tzrp tzrq tzrr tzrs tzrd p0 p1 x6 r11 w12 w13 w14 w15 hk16) (cwV 3 hts gX0_addBoth_X0_add rfl rfl rfl (by decide +kernel) ⟨(Nat.le_of_ble_eq_true rfl), (Nat.le_of_ble_eq_true rfl)⟩) (mc_preV hK (hP.sub (ws' := [(th, .inr (0, [.ref tqa, .ref tqb, .ref tqc, .ref tzh, .int tdd, .int tsz])), (tqa, .inl (cyI, 40, .inl tfa)), (tqb, .inl (cyI, 40, .inl tfb)), (tqc, .inl (cyI, 40, .inl tfc)), (tzh, .inr (1, [.int tzra, .int tzrb, .int tzrc, .int tzrp, .int tzrq, .int tzrr, .int tzrs, .int tzrd]))]) [0, 1, 2, 3, 4] rfl) (hD.sub (ws' := [(th, .inr (0, [.ref tqa, .ref tqb, .ref tqc, .ref tzh, .int tdd, .int tsz])), (tqa, .inl (cyI, 40, .inl tfa)), (tqb, .inl (cyI, 40, .inl tfb)), (tqc, .inl (cyI, 40, .inl tfc)), (tzh, .inr (1, [.int tzra, .int tzrb, .int tzrc, .int tzrp, .int tzrq, .int tzrr, .int tzrs, .int tzrd]))]) [0, 1, 2, 3, 4] (by decide) rfl) hnw rfl rfl) rfl rfl hl.1 rfl (lv_room (Nat.le_of_ble_eq_true rfl)) dX0_addBoth_51 ⟨Nat.zero_le _, Nat.zero_le _⟩) hP hD hS hA [0, 1, 2, 3, 4] [] rfl rfl rfl (by decide) (fun H locs hP hD hS => ?_)
        have hP : va_P (dC, dI) vwCl [(th, .inr (0, [.ref tqa, .ref tqb, .ref tqc, .ref tzh, .int tdd, .int w15])), (tqa, .inl (cyI, 40, .inl w12)), (tqb, .inl (cyI, 40, .inl w13)), (tqc, .inl (cyI, 40, .inl w14)), (tzh, .inr (1, [.int tzra, .int tzrb, .int tzrc, .int tzrp, .int tzrq, .int tzrr, .int tzrs, .int tzrd]))] H := hP
        have hD : va_D A [(th, .inr (0, [.ref tqa, .ref tqb, .ref tqc, .ref tzh, .int tdd, .int w15])), (tqa, .inl (cyI, 40, .inl w12)), (tqb, .inl (cyI, 40, .inl w13)), (tqc, .inl (cyI, 40, .inl w14)), (tzh, .inr (1, [.int tzra, .int tzrb, .int tzrc, .int tzrp, .int tzrq, .int tzrr, .int tzrs, .int tzrd]))] := hD
        refine lv_istore (lv' := [(5, .int r11), (4, .int x6), (3, .int x1), (0, .ref th), (1, .int p0), (2, .int p1)]) hx hb dX0_addBoth_54 hl (by decide) rfl (fun ls hl => ?_)
        refine lv_iload_n hx hb dX0_addBoth_56 rfl (lv_at hl 5 rfl) ?_
        refine lv_if_eq (tgt := 71) hx hb dX0_addBoth_57 (by decide) (fun hc17 => ?_) (fun hc17 => ?_)
        · have h := dm_t hc17 h
          refine lv_iload hx hb dX0_addBoth_71 (lv_at hl 0 rfl) ?_
          obtain ⟨hz18, h⟩ := dm_gs h
          obtain ⟨hE0, hE1, hE2, hE3, hE4⟩ := dm_i5 h
          subst hE0; subst hE1; subst hE2; subst hE3; subst hE4
          rw [hQQ]
          have hP9 := hP.sub (ws' := [(th, .inr (0, [.ref tqa, .ref tqb, .ref tqc, .ref tzh, .int tdd, .int w15])), (tqa, .inl (cyI, 40, .inl w12)), (tqb, .inl (cyI, 40, .inl w13)), (tqc, .inl (cyI, 40, .inl w14)), (tzh, .inr (1, [.int tzra, .int tzrb, .int tzrc, .int tzrp, .int tzrq, .int tzrr, .int tzrs, .int tzrd]))]) [0, 1, 2, 3, 4] rfl
          have hD9 := hD.sub (ws' := [(th, .inr (0, [.ref tqa, .ref tqb, .ref tqc, .ref tzh, .int tdd, .int w15])), (tqa, .inl (cyI, 40, .inl w12)), (tqb, .inl (cyI, 40, .inl w13)), (tqc, .inl (cyI, 40, .inl w14)), (tzh, .inr (1, [.int tzra, .int tzrb, .int tzrc, .int tzrp, .int tzrq, .int tzrr, .int tzrs, .int tzrd]))]) [0, 1, 2, 3, 4] (by decide) rfl
          exact W.zret (v := r11) hx hb hr (mc_nz hz18) (fun t ht hW => ⟨⟨r11, (), rfl, rfl, by rw [ht]; exact hP9, hD9⟩, hS.F ht⟩) hS.2.2 dX0_addBoth_73
        · have h := dm_f hc17 h
          refine lv_iload_n hx hb dX0_addBoth_60 rfl (lv_at hl 5 rfl) ?_
          refine lv_iload_n hx hb dX0_addBoth_61 rfl (lv_at hl 4 rfl) ?_
          refine lv_icmp_eq (tgt := 71) hx hb dX0_addBoth_62 (by decide) (fun hc19 => ?_) (fun hc19 => ?_)
          · have h := dm_t hc19 h
            refine lv_iload hx hb dX0_addBoth_71 (lv_at hl 0 rfl) ?_
            obtain ⟨hz20, h⟩ := dm_gs h
            obtain ⟨hE0, hE1, hE2, hE3, hE4⟩ := dm_i5 h
            subst hE0; subst hE1; subst hE2; subst hE3; subst hE4
            rw [hQQ]
            have hP9 := hP.sub (ws' := [(th, .inr (0, [.ref tqa, .ref tqb, .ref tqc, .ref tzh, .int tdd, .int w15])), (tqa, .inl (cyI, 40, .inl w12)), (tqb, .inl (cyI, 40, .inl w13)), (tqc, .inl (cyI, 40, .inl w14)), (tzh, .inr (1, [.int tzra, .int tzrb, .int tzrc, .int tzrp, .int tzrq, .int tzrr, .int tzrs, .int tzrd]))]) [0, 1, 2, 3, 4] rfl
            have hD9 := hD.sub (ws' := [(th, .inr (0, [.ref tqa, .ref tqb, .ref tqc, .ref tzh, .int tdd, .int w15])), (tqa, .inl (cyI, 40, .inl w12)), (tqb, .inl (cyI, 40, .inl w13)), (tqc, .inl (cyI, 40, .inl w14)), (tzh, .inr (1, [.int tzra, .int tzrb, .int tzrc, .int tzrp, .int tzrq, .int tzrr, .int tzrs, .int tzrd]))]) [0, 1, 2, 3, 4] (by decide) rfl
            exact W.zret (v := r11) hx hb hr (mc_nz hz20) (fun t ht hW => ⟨⟨r11, (), rfl, rfl, by rw [ht]; exact hP9, hD9⟩, hS.F ht⟩) hS.2.2 dX0_addBoth_73
          · have h := dm_f hc19 h
            refine lv_iload_n hx hb dX0_addBoth_65 rfl (lv_at hl 4 rfl) ?_
            refine lv_iload hx hb dX0_addBoth_66 (lv_at hl 1 rfl) ?_
            refine lv_icmp_ne (tgt := 74) hx hb dX0_addBoth_68 (by decide) (fun hc21 => ?_) (fun hc21 => ?_)
            · have h := dm_f hc21 h
              refine lv_iload hx hb dX0_addBoth_74 (lv_at hl 0 rfl) ?_
              refine lv_if_eq (tgt := 95) hx hb dX0_addBoth_76 (by decide) (fun hc22 => ?_) (fun hc22 => ?_)
              · have h := dm_t hc22 h
                refine lv_iconst (v := 0) hx hb dX0_addBoth_95 (by decide) ?_
                obtain ⟨hE0, hE1, hE2, hE3, hE4⟩ := dm_i5 h
                subst hE0; subst hE1; subst hE2; subst hE3; subst hE4
                rw [hQQ]
                have hP9 := hP.sub (ws' := [(th, .inr (0, [.ref tqa, .ref tqb, .ref tqc, .ref tzh, .int tdd, .int w15])), (tqa, .inl (cyI, 40, .inl w12)), (tqb, .inl (cyI, 40, .inl w13)), (tqc, .inl (cyI, 40, .inl w14)), (tzh, .inr (1, [.int tzra, .int tzrb, .int tzrc, .int tzrp, .int tzrq, .int tzrr, .int tzrs, .int tzrd]))]) [0, 1, 2, 3, 4] rfl
                have hD9 := hD.sub (ws' := [(th, .inr (0, [.ref tqa, .ref tqb, .ref tqc, .ref tzh, .int tdd, .int w15])), (tqa, .inl (cyI, 40, .inl w12)), (tqb, .inl (cyI, 40, .inl w13)), (tqc, .inl (cyI, 40, .inl w14)), (tzh, .inr (1, [.int tzra, .int tzrb, .int tzrc, .int tzrp, .int tzrq, .int tzrr, .int tzrs, .int tzrd]))]) [0, 1, 2, 3, 4] (by decide) rfl
                exact W.zret (v := (0 : Int32)) hx hb hr rfl (fun t ht hW => ⟨⟨(0 : Int32), (), rfl, rfl, by rw [ht]; exact hP9, hD9⟩, hS.F ht⟩) hS.2.2 dX0_addBoth_96
              · have h := dm_f hc22 h
                refine lv_aload_n hx hb dX0_addBoth_79 rfl (lv_at hl 3 rfl) ?_
                refine lv_iload_n hx hb dX0_addBoth_80 rfl (lv_at hl 4 rfl) ?_
                refine lv_iload_n hx hb dX0_addBoth_81 rfl (lv_at hl 5 rfl) ?_
                refine lv_ineg hx hb dX0_addBoth_82 ?_
                refine lv_iload hx hb dX0_addBoth_83 (lv_at hl 1 rfl) ?_
                obtain ⟨r23, w24, w25, w26, w27, hk28, h⟩ := dm_b5s h
                refine mc_i (wr := []) (va_runV (As := [.int p0, .int (-p1), .int x6]) (rest := []) ⟨hx, hb, hml, hown, hts⟩ (c_X0_add l dC dI cyI cyJ cyC th tqa tqb tqc tzh H.size w12 w13 w14 tdd w15 tzra tzrb tzrc tzrp tzrq tzrr tzrs tzrd p0 (-p1) x6 r23 w24 w25 w26 w27 hk28) (cwV 3 hts gX0_addBoth_X0_add rfl rfl rfl (by decide +kernel) ⟨(Nat.le_of_ble_eq_true rfl), (Nat.le_of_ble_eq_true rfl)⟩) (mc_preV hK (hP.sub (ws' := [(th, .inr (0, [.ref tqa, .ref tqb, .ref tqc, .ref tzh, .int tdd, .int w15])), (tqa, .inl (cyI, 40, .inl w12)), (tqb, .inl (cyI, 40, .inl w13)), (tqc, .inl (cyI, 40, .inl w14)), (tzh, .inr (1, [.int tzra, .int tzrb, .int tzrc, .int tzrp, .int tzrq, .int tzrr, .int tzrs, .int tzrd]))]) [0, 1, 2, 3, 4] rfl) (hD.sub (ws' := [(th, .inr (0, [.ref tqa, .ref tqb, .ref tqc, .ref tzh, .int tdd, .int w15])), (tqa, .inl (cyI, 40, .inl w12)), (tqb, .inl (cyI, 40, .inl w13)), (tqc, .inl (cyI, 40, .inl w14)), (tzh, .inr (1, [.int tzra, .int tzrb, .int tzrc, .int tzrp, .int tzrq, .int tzrr, .int tzrs, .int tzrd]))]) [0, 1, 2, 3, 4] (by decide) rfl) hnw rfl rfl) rfl rfl hl.1 rfl (lv_room (Nat.le_of_ble_eq_true rfl)) dX0_addBoth_85 ⟨Nat.zero_le _, Nat.zero_le _⟩) hP hD hS hA [0, 1, 2, 3, 4] [] rfl rfl rfl (by decide) (fun H locs hP hD hS => ?_)
                have hP : va_P (dC, dI) vwCl [(th, .inr (0, [.ref tqa, .ref tqb, .ref tqc, .ref tzh, .int tdd, .int w27])), (tqa, .inl (cyI, 40, .inl w24)), (tqb, .inl (cyI, 40, .inl w25)), (tqc, .inl (cyI, 40, .inl w26)), (tzh, .inr (1, [.int tzra, .int tzrb, .int tzrc, .int tzrp, .int tzrq, .int tzrr, .int tzrs, .int tzrd]))] H := hP
                have hD : va_D A [(th, .inr (0, [.ref tqa, .ref tqb, .ref tqc, .ref tzh, .int tdd, .int w27])), (tqa, .inl (cyI, 40, .inl w24)), (tqb, .inl (cyI, 40, .inl w25)), (tqc, .inl (cyI, 40, .inl w26)), (tzh, .inr (1, [.int tzra, .int tzrb, .int tzrc, .int tzrp, .int tzrq, .int tzrr, .int tzrs, .int tzrd]))] := hD
                refine lv_if_eq (tgt := 95) hx hb dX0_addBoth_88 (by decide) (fun hc29 => ?_) (fun hc29 => ?_)
                · have h := dm_t hc29 h
                  refine lv_iconst (v := 0) hx hb dX0_addBoth_95 (by decide) ?_
                  obtain ⟨hE0, hE1, hE2, hE3, hE4⟩ := dm_i5 h
                  subst hE0; subst hE1; subst hE2; subst hE3; subst hE4
                  rw [hQQ]
                  have hP9 := hP.sub (ws' := [(th, .inr (0, [.ref tqa, .ref tqb, .ref tqc, .ref tzh, .int tdd, .int w27])), (tqa, .inl (cyI, 40, .inl w24)), (tqb, .inl (cyI, 40, .inl w25)), (tqc, .inl (cyI, 40, .inl w26)), (tzh, .inr (1, [.int tzra, .int tzrb, .int tzrc, .int tzrp, .int tzrq, .int tzrr, .int tzrs, .int tzrd]))]) [0, 1, 2, 3, 4] rfl
                  have hD9 := hD.sub (ws' := [(th, .inr (0, [.ref tqa, .ref tqb, .ref tqc, .ref tzh, .int tdd, .int w27])), (tqa, .inl (cyI, 40, .inl w24)), (tqb, .inl (cyI, 40, .inl w25)), (tqc, .inl (cyI, 40, .inl w26)), (tzh, .inr (1, [.int tzra, .int tzrb, .int tzrc, .int tzrp, .int tzrq, .int tzrr, .int tzrs, .int tzrd]))]) [0, 1, 2, 3, 4] (by decide) rfl
                  exact W.zret (v := (0 : Int32)) hx hb hr rfl (fun t ht hW => ⟨⟨(0 : Int32), (), rfl, rfl, by rw [ht]; exact hP9, hD9⟩, hS.F ht⟩) hS.2.2 dX0_addBoth_96
                · have h := dm_f hc29 h
                  refine lv_iconst (v := 1) hx hb dX0_addBoth_91 (by decide) ?_
                  refine lv_goto (tgt := 96) hx hb dX0_addBoth_92 (by decide) ?_
                  obtain ⟨hE0, hE1, hE2, hE3, hE4⟩ := dm_i5 h
                  subst hE0; subst hE1; subst hE2; subst hE3; subst hE4
                  rw [hQQ]
                  have hP9 := hP.sub (ws' := [(th, .inr (0, [.ref tqa, .ref tqb, .ref tqc, .ref tzh, .int tdd, .int w27])), (tqa, .inl (cyI, 40, .inl w24)), (tqb, .inl (cyI, 40, .inl w25)), (tqc, .inl (cyI, 40, .inl w26)), (tzh, .inr (1, [.int tzra, .int tzrb, .int tzrc, .int tzrp, .int tzrq, .int tzrr, .int tzrs, .int tzrd]))]) [0, 1, 2, 3, 4] rfl
                  have hD9 := hD.sub (ws' := [(th, .inr (0, [.ref tqa, .ref tqb, .ref tqc, .ref tzh, .int tdd, .int w27])), (tqa, .inl (cyI, 40, .inl w24)), (tqb, .inl (cyI, 40, .inl w25)), (tqc, .inl (cyI, 40, .inl w26)), (tzh, .inr (1, [.int tzra, .int tzrb, .int tzrc, .int tzrp, .int tzrq, .int tzrr, .int tzrs, .int tzrd]))]) [0, 1, 2, 3, 4] (by decide) rfl
                  exact W.zret (v := (1 : Int32)) hx hb hr rfl (fun t ht hW => ⟨⟨(1 : Int32), (), rfl, rfl, by rw [ht]; exact hP9, hD9⟩, hS.F ht⟩) hS.2.2 dX0_addBoth_96
            · have h := dm_t hc21 h
              refine lv_iload hx hb dX0_addBoth_71 (lv_at hl 0 rfl) ?_
              obtain ⟨hz30, h⟩ := dm_gs h
              obtain ⟨hE0, hE1, hE2, hE3, hE4⟩ := dm_i5 h
              subst hE0; subst hE1; subst hE2; subst hE3; subst hE4
              rw [hQQ]
              have hP9 := hP.sub (ws' := [(th, .inr (0, [.ref tqa, .ref tqb, .ref tqc, .ref tzh, .int tdd, .int w15])), (tqa, .inl (cyI, 40, .inl w12)), (tqb, .inl (cyI, 40, .inl w13)), (tqc, .inl (cyI, 40, .inl w14)), (tzh, .inr (1, [.int tzra, .int tzrb, .int tzrc, .int tzrp, .int tzrq, .int tzrr, .int tzrs, .int tzrd]))]) [0, 1, 2, 3, 4] rfl
              have hD9 := hD.sub (ws' := [(th, .inr (0, [.ref tqa, .ref tqb, .ref tqc, .ref tzh, .int tdd, .int w15])), (tqa, .inl (cyI, 40, .inl w12)), (tqb, .inl (cyI, 40, .inl w13)), (tqc, .inl (cyI, 40, .inl w14)), (tzh, .inr (1, [.int tzra, .int tzrb, .int tzrc, .int tzrp, .int tzrq, .int tzrr, .int tzrs, .int tzrd]))]) [0, 1, 2, 3, 4] (by decide) rfl
              exact W.zret (v := r11) hx hb hr (mc_nz hz30) (fun t ht hW => ⟨⟨r11, (), rfl, rfl, by rw [ht]; exact hP9, hD9⟩, hS.F ht⟩) hS.2.2 dX0_addBoth_73
      · have h := dm_t hc10 h
        refine lv_iconst (v := 1) hx hb dX0_addBoth_44 (by decide) ?_
        obtain ⟨hE0, hE1, hE2, hE3, hE4⟩ := dm_i5 h
        subst hE0; subst hE1; subst hE2; subst hE3; subst hE4
        rw [hQQ]
        have hP9 := hP.sub (ws' := [(th, .inr (0, [.ref tqa, .ref tqb, .ref tqc, .ref tzh, .int tdd, .int tsz])), (tqa, .inl (cyI, 40, .inl tfa)), (tqb, .inl (cyI, 40, .inl tfb)), (tqc, .inl (cyI, 40, .inl tfc)), (tzh, .inr (1, [.int tzra, .int tzrb, .int tzrc, .int tzrp, .int tzrq, .int tzrr, .int tzrs, .int tzrd]))]) [0, 1, 2, 3, 4] rfl
        have hD9 := hD.sub (ws' := [(th, .inr (0, [.ref tqa, .ref tqb, .ref tqc, .ref tzh, .int tdd, .int tsz])), (tqa, .inl (cyI, 40, .inl tfa)), (tqb, .inl (cyI, 40, .inl tfb)), (tqc, .inl (cyI, 40, .inl tfc)), (tzh, .inr (1, [.int tzra, .int tzrb, .int tzrc, .int tzrp, .int tzrq, .int tzrr, .int tzrs, .int tzrd]))]) [0, 1, 2, 3, 4] (by decide) rfl
        exact W.zret (v := (1 : Int32)) hx hb hr rfl (fun t ht hW => ⟨⟨(1 : Int32), (), rfl, rfl, by rw [ht]; exact hP9, hD9⟩, hS.F ht⟩) hS.2.2 dX0_addBoth_45
  · have h := dm_t hc4 h
    refine lv_iconst (v := 1) hx hb dX0_addBoth_19 (by decide) ?_
    obtain ⟨hE0, hE1, hE2, hE3, hE4⟩ := dm_i5 h
    subst hE0; subst hE1; subst hE2; subst hE3; subst hE4
    rw [hQQ]
    have hP9 := hP.sub (ws' := [(th, .inr (0, [.ref tqa, .ref tqb, .ref tqc, .ref tzh, .int tdd, .int tsz])), (tqa, .inl (cyI, 40, .inl tfa)), (tqb, .inl (cyI, 40, .inl tfb)), (tqc, .inl (cyI, 40, .inl tfc)), (tzh, .inr (1, [.int tzra, .int tzrb, .int tzrc, .int tzrp, .int tzrq, .int tzrr, .int tzrs, .int tzrd]))]) [0, 1, 2, 3, 4] rfl
    have hD9 := hD.sub (ws' := [(th, .inr (0, [.ref tqa, .ref tqb, .ref tqc, .ref tzh, .int tdd, .int tsz])), (tqa, .inl (cyI, 40, .inl tfa)), (tqb, .inl (cyI, 40, .inl tfb)), (tqc, .inl (cyI, 40, .inl tfc)), (tzh, .inr (1, [.int tzra, .int tzrb, .int tzrc, .int tzrp, .int tzrq, .int tzrr, .int tzrs, .int tzrd]))]) [0, 1, 2, 3, 4] (by decide) rfl
    exact W.zret (v := (1 : Int32)) hx hb hr rfl (fun t ht hW => ⟨⟨(1 : Int32), (), rfl, rfl, by rw [ht]; exact hP9, hD9⟩, hS.F ht⟩) hS.2.2 dX0_addBoth_20

def f_X0_fill_L24 (p0 : Int32) (v1 : Int32) (k12 : Int32 → (Nat → Int32) → (Nat → Int32) → (Nat → Int32) → Int32 → Option (Int32 × (Nat → Int32) × (Nat → Int32) × (Nat → Int32) × Int32 × Int32)) : Nat → Int32 → (Nat → Int32) → (Nat → Int32) → (Nat → Int32) → Int32 → Option (Int32 × (Nat → Int32) × (Nat → Int32) × (Nat → Int32) × Int32 × Int32)
  | 0, _, _, _, _, _ => none
  | n + 1, v7, v8, v9, v10, v11 =>
    if v1 < v7 then
      dm_let (v1 + (1 : Int32)) fun x13 =>
      k12 x13 v8 v9 v10 v11
    else
      dm_b5 (f_X0_addBoth v8 v9 v10 p0 v11 v1 v7) fun r14 w15 w16 w17 w18 =>
      if r14 = 0 then
        some ((0 : Int32), w15, w16, w17, p0, w18)
      else
        dm_let (v7 + (1 : Int32)) fun x21 =>
        f_X0_fill_L24 p0 v1 k12 n x21 w15 w16 w17 w18
def f_X0_fill_L12 (p0 : Int32)  : Nat → Int32 → (Nat → Int32) → (Nat → Int32) → (Nat → Int32) → Int32 → Option (Int32 × (Nat → Int32) × (Nat → Int32) × (Nat → Int32) × Int32 × Int32)
  | 0, _, _, _, _, _ => none
  | n + 1, v1, v2, v3, v4, v5 =>
    if (-p0) < (((3 : Int32) * v1) * v1) then
      some ((1 : Int32), v2, v3, v4, p0, v5)
    else
      f_X0_fill_L24 p0 v1 (fun o0 o1 o2 o3 o4 => f_X0_fill_L12 p0 n o0 o1 o2 o3 o4) 100000 (0 : Int32) v2 v3 v4 v5
def f_X0_fill (tfa : Nat → Int32) (tfb : Nat → Int32) (tfc : Nat → Int32) (p0 : Int32) : Option (Int32 × (Nat → Int32) × (Nat → Int32) × (Nat → Int32) × Int32 × Int32) :=
  f_X0_fill_L12 p0 100000 (1 : Int32) tfa tfb tfc (0 : Int32)
set_option maxHeartbeats 4000000 in
set_option maxRecDepth 100000 in
theorem c_X0_fill (l : Launch) (dC : Nat → ClassId) (dI : Nat → Nat → Nat) (cyI cyJ cyC : ClassId) (th tqa tqb tqc tzh : Nat) (sz : Nat) (tfa : Nat → Int32) (tfb : Nat → Int32) (tfc : Nat → Int32) (tdd : Int32) (tsz : Int32) (tzra : Int32) (tzrb : Int32) (tzrc : Int32) (tzrp : Int32) (tzrq : Int32) (tzrr : Int32) (tzrs : Int32) (tzrd : Int32) (p0 : Int32) (rv : Int32) (tfa' : Nat → Int32) (tfb' : Nat → Int32) (tfc' : Nat → Int32) (tdd' : Int32) (tsz' : Int32) (hf : f_X0_fill tfa tfb tfc p0 = some (rv, tfa', tfb', tfc', tdd', tsz')) : Met l yX0_fill wsX0_fill { frames := 4, cells := 0, slots := 0, locals := 85 } (va_Pc [.ref th, .int p0] (mc_Pre (dC, dI) (mc_tys cyI cyJ cyC) [(th, .inr (0, [.ref tqa, .ref tqb, .ref tqc, .ref tzh, .int tdd, .int tsz])), (tqa, .inl (cyI, 40, .inl tfa)), (tqb, .inl (cyI, 40, .inl tfb)), (tqc, .inl (cyI, 40, .inl tfc)), (tzh, .inr (1, [.int tzra, .int tzrb, .int tzrc, .int tzrp, .int tzrq, .int tzrr, .int tzrs, .int tzrd]))] sz)) (va_Qi (fun r (_ : Unit) => r = rv) (fun _ t => mc_Post (dC, dI) (va_A [(th, .inr (0, [.ref tqa, .ref tqb, .ref tqc, .ref tzh, .int tdd, .int tsz])), (tqa, .inl (cyI, 40, .inl tfa)), (tqb, .inl (cyI, 40, .inl tfb)), (tqc, .inl (cyI, 40, .inl tfc)), (tzh, .inr (1, [.int tzra, .int tzrb, .int tzrc, .int tzrp, .int tzrq, .int tzrr, .int tzrs, .int tzrd]))] sz) [(th, .inr (0, [.ref tqa, .ref tqb, .ref tqc, .ref tzh, .int tdd', .int tsz'])), (tqa, .inl (cyI, 40, .inl tfa')), (tqb, .inl (cyI, 40, .inl tfb')), (tqc, .inl (cyI, 40, .inl tfc')), (tzh, .inr (1, [.int tzra, .int tzrb, .int tzrc, .int tzrp, .int tzrq, .int tzrr, .int tzrs, .int tzrd]))] t) (va_A [(th, .inr (0, [.ref tqa, .ref tqb, .ref tqc, .ref tzh, .int tdd, .int tsz])), (tqa, .inl (cyI, 40, .inl tfa)), (tqb, .inl (cyI, 40, .inl tfb)), (tqc, .inl (cyI, 40, .inl tfc)), (tzh, .inr (1, [.int tzra, .int tzrb, .int tzrc, .int tzrp, .int tzrq, .int tzrr, .int tzrs, .int tzrd]))] sz)) 0 0 (va_A [(th, .inr (0, [.ref tqa, .ref tqb, .ref tqc, .ref tzh, .int tdd, .int tsz])), (tqa, .inl (cyI, 40, .inl tfa)), (tqb, .inl (cyI, 40, .inl tfb)), (tqc, .inl (cyI, 40, .inl tfc)), (tzh, .inr (1, [.int tzra, .int tzrb, .int tzrc, .int tzrp, .int tzrq, .int tzrr, .int tzrs, .int tzrd]))] sz) := by
  refine Met.ofW (cc := cX0_fill) (maxL := 4) (ret := (some .boolean)) (by decide +kernel) rfl ?_
  intro p e s m args below meth c s₁ B hml hv
  obtain ⟨rfl, hsz, hP, hK, hD0, hnw⟩ := hv
  have hx := B.exec
  have hb := B.bytes
  have hr := B.returns
  have hts := atoms_spec (ws := wsX0_fill) B.pre
  have hown : s.vm.findClass RX0 = some m.cls := findClass_of_methodNamed B.named
  have hlocks := B.notSynchronized
  have hinX0 : ∀ w ∈ wsX00, w ∈ wsX0_fill := by decide +kernel
  subst hsz
  have hD := hD0.self (sz := s.heap.size)
  generalize hAe : va_A [(th, .inr (0, [.ref tqa, .ref tqb, .ref tqc, .ref tzh, .int tdd, .int tsz])), (tqa, .inl (cyI, 40, .inl tfa)), (tqb, .inl (cyI, 40, .inl tfb)), (tqc, .inl (cyI, 40, .inl tfc)), (tzh, .inr (1, [.int tzra, .int tzrb, .int tzrc, .int tzrp, .int tzrq, .int tzrr, .int tzrs, .int tzrd]))] s.heap.size = A at hD ⊢
  have hA : ∀ q : Nat, s.heap.size ≤ q → A q := fun q h => by rw [← hAe]; exact Or.inr h
  have hS : va_S A s.heap s.heap [] := va_S.rf
  have hP : va_P (dC, dI) vwCl [(th, .inr (0, [.ref tqa, .ref tqb, .ref tqc, .ref tzh, .int tdd, .int tsz])), (tqa, .inl (cyI, 40, .inl tfa)), (tqb, .inl (cyI, 40, .inl tfb)), (tqc, .inl (cyI, 40, .inl tfc)), (tzh, .inr (1, [.int tzra, .int tzrb, .int tzrc, .int tzrp, .int tzrq, .int tzrr, .int tzrs, .int tzrd]))] s.heap := hP
  have hl := lv_entry ([.ref th, .int p0]) (n := 4) (Nat.le_of_ble_eq_true rfl)
  rw [lg_entry_eq]
  generalize (lg_sl ([.ref th, .int p0]) ++ List.replicate (4 - (lg_sl ([.ref th, .int p0])).length) Slot.unset).toArray = ls at hl ⊢
  have hl : lv_has ls 4 [(0, .ref th), (1, .int p0)] := hl
  obtain ⟨QQ, hQQ⟩ : ∃ Q, Q = MQ below (va_Qi (fun r (_ : Unit) => r = rv) (fun _ t => mc_Post (dC, dI) A [(th, .inr (0, [.ref tqa, .ref tqb, .ref tqc, .ref tzh, .int tdd', .int tsz'])), (tqa, .inl (cyI, 40, .inl tfa')), (tqb, .inl (cyI, 40, .inl tfb')), (tqc, .inl (cyI, 40, .inl tfc')), (tzh, .inr (1, [.int tzra, .int tzrb, .int tzrc, .int tzrp, .int tzrq, .int tzrr, .int tzrs, .int tzrd]))] t) A) ([Value.ref th, Value.int p0] : List Value).toArray s 0 0 A := ⟨_, rfl⟩
  rw [← hQQ]
  have h := hf
  unfold f_X0_fill at h
  refine lv_aload_n hx hb dX0_fill_0 rfl (lv_at hl 0 rfl) ?_
  refine lv_iload_n hx hb dX0_fill_1 rfl (lv_at hl 1 rfl) ?_
  refine va_put (D := (dC, dI)) (ci := 0) (v := .int p0) (ty := .int) (C := RX0) (T := TX0) (N := 6) hx hb hts hinX0 tyX0 tyX0_ok nmX0 hown hK hP hD hS 0 rfl rfl 4 (by decide) (hts (.fieldLink RX0 28 "FormDesk$ClassList" "discriminant" "I") (by decide +kernel)) (fun _ h9 => h9) rfl (by decide +kernel) rfl rfl (Nat.le_of_ble_eq_true rfl) dX0_fill_2 (fun H locs hP hD hS => ?_)
  have hP : va_P (dC, dI) vwCl [(th, .inr (0, [.ref tqa, .ref tqb, .ref tqc, .ref tzh, .int p0, .int tsz])), (tqa, .inl (cyI, 40, .inl tfa)), (tqb, .inl (cyI, 40, .inl tfb)), (tqc, .inl (cyI, 40, .inl tfc)), (tzh, .inr (1, [.int tzra, .int tzrb, .int tzrc, .int tzrp, .int tzrq, .int tzrr, .int tzrs, .int tzrd]))] H := hP
  have hD : va_D A [(th, .inr (0, [.ref tqa, .ref tqb, .ref tqc, .ref tzh, .int p0, .int tsz])), (tqa, .inl (cyI, 40, .inl tfa)), (tqb, .inl (cyI, 40, .inl tfb)), (tqc, .inl (cyI, 40, .inl tfc)), (tzh, .inr (1, [.int tzra, .int tzrb, .int tzrc, .int tzrp, .int tzrq, .int tzrr, .int tzrs, .int tzrd]))] := hD
  refine lv_aload_n hx hb dX0_fill_5 rfl (lv_at hl 0 rfl) ?_
  refine lv_iconst (v := 0) hx hb dX0_fill_6 (by decide) ?_
  refine va_put (D := (dC, dI)) (ci := 0) (v := .int (0 : Int32)) (ty := .int) (C := RX0) (T := TX0) (N := 6) hx hb hts hinX0 tyX0 tyX0_ok nmX0 hown hK hP hD hS 0 rfl rfl 5 (by decide) (hts (.fieldLink RX0 32 "FormDesk$ClassList" "size" "I") (by decide +kernel)) (fun _ h9 => h9) rfl (by decide +kernel) rfl rfl (Nat.le_of_ble_eq_true rfl) dX0_fill_7 (fun H locs hP hD hS => ?_)
  have hP : va_P (dC, dI) vwCl [(th, .inr (0, [.ref tqa, .ref tqb, .ref tqc, .ref tzh, .int p0, .int (0 : Int32)])), (tqa, .inl (cyI, 40, .inl tfa)), (tqb, .inl (cyI, 40, .inl tfb)), (tqc, .inl (cyI, 40, .inl tfc)), (tzh, .inr (1, [.int tzra, .int tzrb, .int tzrc, .int tzrp, .int tzrq, .int tzrr, .int tzrs, .int tzrd]))] H := hP
  have hD : va_D A [(th, .inr (0, [.ref tqa, .ref tqb, .ref tqc, .ref tzh, .int p0, .int (0 : Int32)])), (tqa, .inl (cyI, 40, .inl tfa)), (tqb, .inl (cyI, 40, .inl tfb)), (tqc, .inl (cyI, 40, .inl tfc)), (tzh, .inr (1, [.int tzra, .int tzrb, .int tzrc, .int tzrp, .int tzrq, .int tzrr, .int tzrs, .int tzrd]))] := hD
  refine lv_iconst (v := 1) hx hb dX0_fill_10 (by decide) ?_
  refine lv_istore_n (lv' := [(2, .int (1 : Int32)), (0, .ref th), (1, .int p0)]) hx hb dX0_fill_11 rfl hl (by decide) rfl (fun ls hl => ?_)
  have L12 : ∀ (n12 : Nat) (v1 : Int32) (v2 : Nat → Int32) (v3 : Nat → Int32) (v4 : Nat → Int32) (v5 : Int32) (H : Heap) (locs : List Loc) (ls : Array Slot), f_X0_fill_L12 p0 n12 v1 v2 v3 v4 v5 = some (rv, tfa', tfb', tfc', tdd', tsz') → va_P (dC, dI) vwCl [(th, .inr (0, [.ref tqa, .ref tqb, .ref tqc, .ref tzh, .int p0, .int v5])), (tqa, .inl (cyI, 40, .inl v2)), (tqb, .inl (cyI, 40, .inl v3)), (tqc, .inl (cyI, 40, .inl v4)), (tzh, .inr (1, [.int tzra, .int tzrb, .int tzrc, .int tzrp, .int tzrq, .int tzrr, .int tzrs, .int tzrd]))] H → va_D A [(th, .inr (0, [.ref tqa, .ref tqb, .ref tqc, .ref tzh, .int p0, .int v5])), (tqa, .inl (cyI, 40, .inl v2)), (tqb, .inl (cyI, 40, .inl v3)), (tqc, .inl (cyI, 40, .inl v4)), (tzh, .inr (1, [.int tzra, .int tzrb, .int tzrc, .int tzrp, .int tzrq, .int tzrr, .int tzrs, .int tzrd]))] → va_S A s.heap H locs → lv_has ls 4 [(2, .int v1), (0, .ref th), (1, .int p0)] → W p l e (headSpec wsX0_fill { frames := 4, cells := 0, slots := 0, locals := 85 }).room s m ([Value.ref th, Value.int p0] : List Value).toArray below meth c H locs 0 0 QQ (F0 m 12 ls []) := by
    intro n12
    induction n12 with
    | zero =>
      intro v1 v2 v3 v4 v5 H locs ls h
      exact nomatch (show (none : Option (Int32 × (Nat → Int32) × (Nat → Int32) × (Nat → Int32) × Int32 × Int32)) = some _ from h)
    | succ n12 ih12 =>
      intro v1 v2 v3 v4 v5 H locs ls h hP hD hS hl
      rw [f_X0_fill_L12] at h
      refine lv_iconst (v := 3) hx hb dX0_fill_12 (by decide) ?_
      refine lv_iload_n hx hb dX0_fill_13 rfl (lv_at hl 0 rfl) ?_
      refine lv_imul hx hb dX0_fill_14 ?_
      refine lv_iload_n hx hb dX0_fill_15 rfl (lv_at hl 0 rfl) ?_
      refine lv_imul hx hb dX0_fill_16 ?_
      refine lv_iload_n hx hb dX0_fill_17 rfl (lv_at hl 2 rfl) ?_
      refine lv_ineg hx hb dX0_fill_18 ?_
      refine lv_icmp_gt (tgt := 52) hx hb dX0_fill_19 (by decide) (fun hc6 => ?_) (fun hc6 => ?_)
      · have h := dm_t hc6 h
        refine lv_iconst (v := 1) hx hb dX0_fill_52 (by decide) ?_
        obtain ⟨hE0, hE1, hE2, hE3, hE4, hE5⟩ := dm_i6 h
        subst hE0; subst hE1; subst hE2; subst hE3; subst hE4; subst hE5
        rw [hQQ]
        have hP9 := hP.sub (ws' := [(th, .inr (0, [.ref tqa, .ref tqb, .ref tqc, .ref tzh, .int p0, .int v5])), (tqa, .inl (cyI, 40, .inl v2)), (tqb, .inl (cyI, 40, .inl v3)), (tqc, .inl (cyI, 40, .inl v4)), (tzh, .inr (1, [.int tzra, .int tzrb, .int tzrc, .int tzrp, .int tzrq, .int tzrr, .int tzrs, .int tzrd]))]) [0, 1, 2, 3, 4] rfl
        have hD9 := hD.sub (ws' := [(th, .inr (0, [.ref tqa, .ref tqb, .ref tqc, .ref tzh, .int p0, .int v5])), (tqa, .inl (cyI, 40, .inl v2)), (tqb, .inl (cyI, 40, .inl v3)), (tqc, .inl (cyI, 40, .inl v4)), (tzh, .inr (1, [.int tzra, .int tzrb, .int tzrc, .int tzrp, .int tzrq, .int tzrr, .int tzrs, .int tzrd]))]) [0, 1, 2, 3, 4] (by decide) rfl
        exact W.zret (v := (1 : Int32)) hx hb hr rfl (fun t ht hW => ⟨⟨(1 : Int32), (), rfl, rfl, by rw [ht]; exact hP9, hD9⟩, hS.F ht⟩) hS.2.2 dX0_fill_53
      · have h := dm_f hc6 h
        refine lv_iconst (v := 0) hx hb dX0_fill_22 (by decide) ?_
        refine lv_istore_n (lv' := [(3, .int (0 : Int32)), (2, .int v1), (0, .ref th), (1, .int p0)]) hx hb dX0_fill_23 rfl hl (by decide) rfl (fun ls hl => ?_)
        have L24 : ∀ (n24 : Nat) (v7 : Int32) (v8 : Nat → Int32) (v9 : Nat → Int32) (v10 : Nat → Int32) (v11 : Int32) (H : Heap) (locs : List Loc) (ls : Array Slot), f_X0_fill_L24 p0 v1 (fun o0 o1 o2 o3 o4 => f_X0_fill_L12 p0 n12 o0 o1 o2 o3 o4) n24 v7 v8 v9 v10 v11 = some (rv, tfa', tfb', tfc', tdd', tsz') → va_P (dC, dI) vwCl [(th, .inr (0, [.ref tqa, .ref tqb, .ref tqc, .ref tzh, .int p0, .int v11])), (tqa, .inl (cyI, 40, .inl v8)), (tqb, .inl (cyI, 40, .inl v9)), (tqc, .inl (cyI, 40, .inl v10)), (tzh, .inr (1, [.int tzra, .int tzrb, .int tzrc, .int tzrp, .int tzrq, .int tzrr, .int tzrs, .int tzrd]))] H → va_D A [(th, .inr (0, [.ref tqa, .ref tqb, .ref tqc, .ref tzh, .int p0, .int v11])), (tqa, .inl (cyI, 40, .inl v8)), (tqb, .inl (cyI, 40, .inl v9)), (tqc, .inl (cyI, 40, .inl v10)), (tzh, .inr (1, [.int tzra, .int tzrb, .int tzrc, .int tzrp, .int tzrq, .int tzrr, .int tzrs, .int tzrd]))] → va_S A s.heap H locs → lv_has ls 4 [(3, .int v7), (2, .int v1), (0, .ref th), (1, .int p0)] → W p l e (headSpec wsX0_fill { frames := 4, cells := 0, slots := 0, locals := 85 }).room s m ([Value.ref th, Value.int p0] : List Value).toArray below meth c H locs 0 0 QQ (F0 m 24 ls []) := by
          intro n24
          induction n24 with
          | zero =>
            intro v7 v8 v9 v10 v11 H locs ls h
            exact nomatch (show (none : Option (Int32 × (Nat → Int32) × (Nat → Int32) × (Nat → Int32) × Int32 × Int32)) = some _ from h)
          | succ n24 ih24 =>
            intro v7 v8 v9 v10 v11 H locs ls h hP hD hS hl
            rw [f_X0_fill_L24] at h
            refine lv_iload_n hx hb dX0_fill_24 rfl (lv_at hl 0 rfl) ?_
            refine lv_iload_n hx hb dX0_fill_25 rfl (lv_at hl 1 rfl) ?_
            refine lv_icmp_gt (tgt := 46) hx hb dX0_fill_26 (by decide) (fun hc12 => ?_) (fun hc12 => ?_)
            · have h := dm_t hc12 h
              obtain ⟨x13, ex13⟩ : ∃ y : Int32, y = (v1 + (1 : Int32)) := ⟨_, rfl⟩
              have h := dm_lu ex13 h
              refine lv_iinc (v := x13) (lv' := [(2, .int x13), (3, .int v7), (0, .ref th), (1, .int p0)]) hx hb dX0_fill_46 hl (k := 1) rfl (by rw [ex13]; rfl) (by decide) rfl (fun ls hl => ?_)
              refine lv_goto (tgt := 12) hx hb dX0_fill_49 (by decide) ?_
              exact ih12 x13 v8 v9 v10 v11 H _ ls h (hP.sub [0, 1, 2, 3, 4] rfl) (hD.sub [0, 1, 2, 3, 4] (by decide) rfl) hS (lv_sub hl [0, 2, 3] rfl)
            · have h := dm_f hc12 h
              refine lv_aload_n hx hb dX0_fill_29 rfl (lv_at hl 2 rfl) ?_
              refine lv_iload_n hx hb dX0_fill_30 rfl (lv_at hl 1 rfl) ?_
              refine lv_iload_n hx hb dX0_fill_31 rfl (lv_at hl 0 rfl) ?_
              obtain ⟨r14, w15, w16, w17, w18, hk19, h⟩ := dm_b5s h
              refine mc_i (wr := []) (va_runV (As := [.int v1, .int v7]) (rest := []) ⟨hx, hb, hml, hown, hts⟩ (c_X0_addBoth l dC dI cyI cyJ cyC th tqa tqb tqc tzh H.size v8 v9 v10 p0 v11 tzra tzrb tzrc tzrp tzrq tzrr tzrs tzrd v1 v7 r14 w15 w16 w17 w18 hk19) (cwV 2 hts gX0_fill_X0_addBoth rfl rfl rfl (by decide +kernel) ⟨(Nat.le_of_ble_eq_true rfl), (Nat.le_of_ble_eq_true rfl)⟩) (mc_preV hK (hP.sub (ws' := [(th, .inr (0, [.ref tqa, .ref tqb, .ref tqc, .ref tzh, .int p0, .int v11])), (tqa, .inl (cyI, 40, .inl v8)), (tqb, .inl (cyI, 40, .inl v9)), (tqc, .inl (cyI, 40, .inl v10)), (tzh, .inr (1, [.int tzra, .int tzrb, .int tzrc, .int tzrp, .int tzrq, .int tzrr, .int tzrs, .int tzrd]))]) [0, 1, 2, 3, 4] rfl) (hD.sub (ws' := [(th, .inr (0, [.ref tqa, .ref tqb, .ref tqc, .ref tzh, .int p0, .int v11])), (tqa, .inl (cyI, 40, .inl v8)), (tqb, .inl (cyI, 40, .inl v9)), (tqc, .inl (cyI, 40, .inl v10)), (tzh, .inr (1, [.int tzra, .int tzrb, .int tzrc, .int tzrp, .int tzrq, .int tzrr, .int tzrs, .int tzrd]))]) [0, 1, 2, 3, 4] (by decide) rfl) hnw rfl rfl) rfl rfl hl.1 rfl (lv_room (Nat.le_of_ble_eq_true rfl)) dX0_fill_32 ⟨Nat.zero_le _, Nat.zero_le _⟩) hP hD hS hA [0, 1, 2, 3, 4] [] rfl rfl rfl (by decide) (fun H locs hP hD hS => ?_)
              have hP : va_P (dC, dI) vwCl [(th, .inr (0, [.ref tqa, .ref tqb, .ref tqc, .ref tzh, .int p0, .int w18])), (tqa, .inl (cyI, 40, .inl w15)), (tqb, .inl (cyI, 40, .inl w16)), (tqc, .inl (cyI, 40, .inl w17)), (tzh, .inr (1, [.int tzra, .int tzrb, .int tzrc, .int tzrp, .int tzrq, .int tzrr, .int tzrs, .int tzrd]))] H := hP
              have hD : va_D A [(th, .inr (0, [.ref tqa, .ref tqb, .ref tqc, .ref tzh, .int p0, .int w18])), (tqa, .inl (cyI, 40, .inl w15)), (tqb, .inl (cyI, 40, .inl w16)), (tqc, .inl (cyI, 40, .inl w17)), (tzh, .inr (1, [.int tzra, .int tzrb, .int tzrc, .int tzrp, .int tzrq, .int tzrr, .int tzrs, .int tzrd]))] := hD
              refine lv_if_ne (tgt := 40) hx hb dX0_fill_35 (by decide) (fun hc20 => ?_) (fun hc20 => ?_)
              · have h := dm_f hc20 h
                obtain ⟨x21, ex21⟩ : ∃ y : Int32, y = (v7 + (1 : Int32)) := ⟨_, rfl⟩
                have h := dm_lu ex21 h
                refine lv_iinc (v := x21) (lv' := [(3, .int x21), (2, .int v1), (0, .ref th), (1, .int p0)]) hx hb dX0_fill_40 hl (k := 0) rfl (by rw [ex21]; rfl) (by decide) rfl (fun ls hl => ?_)
                refine lv_goto (tgt := 24) hx hb dX0_fill_43 (by decide) ?_
                exact ih24 x21 w15 w16 w17 w18 H _ ls h (hP.sub [0, 1, 2, 3, 4] rfl) (hD.sub [0, 1, 2, 3, 4] (by decide) rfl) hS (lv_sub hl [0, 1, 2, 3] rfl)
              · have h := dm_t hc20 h
                refine lv_iconst (v := 0) hx hb dX0_fill_38 (by decide) ?_
                obtain ⟨hE0, hE1, hE2, hE3, hE4, hE5⟩ := dm_i6 h
                subst hE0; subst hE1; subst hE2; subst hE3; subst hE4; subst hE5
                rw [hQQ]
                have hP9 := hP.sub (ws' := [(th, .inr (0, [.ref tqa, .ref tqb, .ref tqc, .ref tzh, .int p0, .int w18])), (tqa, .inl (cyI, 40, .inl w15)), (tqb, .inl (cyI, 40, .inl w16)), (tqc, .inl (cyI, 40, .inl w17)), (tzh, .inr (1, [.int tzra, .int tzrb, .int tzrc, .int tzrp, .int tzrq, .int tzrr, .int tzrs, .int tzrd]))]) [0, 1, 2, 3, 4] rfl
                have hD9 := hD.sub (ws' := [(th, .inr (0, [.ref tqa, .ref tqb, .ref tqc, .ref tzh, .int p0, .int w18])), (tqa, .inl (cyI, 40, .inl w15)), (tqb, .inl (cyI, 40, .inl w16)), (tqc, .inl (cyI, 40, .inl w17)), (tzh, .inr (1, [.int tzra, .int tzrb, .int tzrc, .int tzrp, .int tzrq, .int tzrr, .int tzrs, .int tzrd]))]) [0, 1, 2, 3, 4] (by decide) rfl
                exact W.zret (v := (0 : Int32)) hx hb hr rfl (fun t ht hW => ⟨⟨(0 : Int32), (), rfl, rfl, by rw [ht]; exact hP9, hD9⟩, hS.F ht⟩) hS.2.2 dX0_fill_39
        exact L24 100000 (0 : Int32) v2 v3 v4 v5 H _ ls h hP hD hS hl
  exact L12 100000 (1 : Int32) tfa tfb tfc (0 : Int32) H _ ls h hP hD hS hl
