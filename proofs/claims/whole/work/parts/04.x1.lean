def f_X1_part (tra : Int32) (trb : Int32) (trc : Int32) (trp : Int32) (trq : Int32) (trr : Int32) (trs : Int32) (trd : Int32) (p0 : Int32) : Option (Int32) :=
  if p0 = (0 : Int32) then
    some tra
  else
    if p0 = (1 : Int32) then
      some trb
    else
      if p0 = (2 : Int32) then
        some trc
      else
        if p0 = (3 : Int32) then
          some trp
        else
          if p0 = (4 : Int32) then
            some trq
          else
            if p0 = (5 : Int32) then
              some trr
            else
              if p0 = (6 : Int32) then
                some trs
              else
                some trd
set_option maxHeartbeats 4000000 in
set_option maxRecDepth 100000 in
theorem c_X1_part (l : Launch) (dC : Nat → ClassId) (dI : Nat → Nat → Nat) (cyI cyJ cyC : ClassId) (th : Nat) (sz : Nat) (tra : Int32) (trb : Int32) (trc : Int32) (trp : Int32) (trq : Int32) (trr : Int32) (trs : Int32) (trd : Int32) (p0 : Int32) (rv : Int32) (hf : f_X1_part tra trb trc trp trq trr trs trd p0 = some rv) : Met l yX1_part wsX1_part { frames := 0, cells := 0, slots := 0, locals := 0 } (va_Pc [.ref th, .int p0] (mc_Pre (dC, dI) (mc_tys cyI cyJ cyC) [(th, .inr (1, [.int tra, .int trb, .int trc, .int trp, .int trq, .int trr, .int trs, .int trd]))] sz)) (va_Qi (fun r (_ : Unit) => r = rv) (fun _ t => mc_Post (dC, dI) (va_A [(th, .inr (1, [.int tra, .int trb, .int trc, .int trp, .int trq, .int trr, .int trs, .int trd]))] sz) [(th, .inr (1, [.int tra, .int trb, .int trc, .int trp, .int trq, .int trr, .int trs, .int trd]))] t) (va_A [(th, .inr (1, [.int tra, .int trb, .int trc, .int trp, .int trq, .int trr, .int trs, .int trd]))] sz)) 0 0 (va_A [(th, .inr (1, [.int tra, .int trb, .int trc, .int trp, .int trq, .int trr, .int trs, .int trd]))] sz) := by
  refine Met.ofW (cc := cX1_part) (maxL := 2) (ret := (some .int)) (by decide +kernel) rfl ?_
  intro p e s m args below meth c s₁ B hml hv
  obtain ⟨rfl, hsz, hP, hK, hD0, hnw⟩ := hv
  have hx := B.exec
  have hb := B.bytes
  have hr := B.returns
  have hts := atoms_spec (ws := wsX1_part) B.pre
  have hown : s.vm.findClass RX1 = some m.cls := findClass_of_methodNamed B.named
  have hlocks := B.notSynchronized
  have hinX1 : ∀ w ∈ wsX10, w ∈ wsX1_part := by decide +kernel
  subst hsz
  have hD := hD0.self (sz := s.heap.size)
  generalize hAe : va_A [(th, .inr (1, [.int tra, .int trb, .int trc, .int trp, .int trq, .int trr, .int trs, .int trd]))] s.heap.size = A at hD ⊢
  have hA : ∀ q : Nat, s.heap.size ≤ q → A q := fun q h => by rw [← hAe]; exact Or.inr h
  have hS : va_S A s.heap s.heap [] := va_S.rf
  have hP : va_P (dC, dI) vwCl [(th, .inr (1, [.int tra, .int trb, .int trc, .int trp, .int trq, .int trr, .int trs, .int trd]))] s.heap := hP
  have hl := lv_entry ([.ref th, .int p0]) (n := 2) (Nat.le_of_ble_eq_true rfl)
  rw [lg_entry_eq]
  generalize (lg_sl ([.ref th, .int p0]) ++ List.replicate (2 - (lg_sl ([.ref th, .int p0])).length) Slot.unset).toArray = ls at hl ⊢
  have hl : lv_has ls 2 [(0, .ref th), (1, .int p0)] := hl
  obtain ⟨QQ, hQQ⟩ : ∃ Q, Q = MQ below (va_Qi (fun r (_ : Unit) => r = rv) (fun _ t => mc_Post (dC, dI) A [(th, .inr (1, [.int tra, .int trb, .int trc, .int trp, .int trq, .int trr, .int trs, .int trd]))] t) A) ([Value.ref th, Value.int p0] : List Value).toArray s 0 0 A := ⟨_, rfl⟩
  rw [← hQQ]
  have h := hf
  unfold f_X1_part at h
  refine lv_iload_n hx hb dX1_part_0 rfl (lv_at hl 1 rfl) ?_
  by_cases hc1 : p0 = (0 : Int32)
  · have h := dm_t hc1 h
    refine lv_tableIn (off := 43) (tgt := 44) hx hb dX1_part_1 (by rw [hc1]; decide) (by rw [hc1]; decide) (by rw [hc1]; decide) (by decide) ?_
    refine lv_aload_n hx hb dX1_part_44 rfl (lv_at hl 0 rfl) ?_
    refine va_get (D := (dC, dI)) (ci := 1) (v := .int tra) (C := RX1) (T := TX1) (N := 8) hx hb hts hinX1 hown hK hP 0 rfl rfl 0 (by decide) (hts (.fieldLink RX1 15 "FormDesk$Reduction" "a" "I") (by decide +kernel)) (fun _ h9 => h9) rfl dX1_part_45 ?_
    obtain hE0 := dm_i1 h
    subst hE0
    rw [hQQ]
    have hP9 := hP.sub (ws' := [(th, .inr (1, [.int tra, .int trb, .int trc, .int trp, .int trq, .int trr, .int trs, .int trd]))]) [0] rfl
    have hD9 := hD.sub (ws' := [(th, .inr (1, [.int tra, .int trb, .int trc, .int trp, .int trq, .int trr, .int trs, .int trd]))]) [0] (by decide) rfl
    exact W.iret (v := tra) hx hb hr (fun t ht hW => ⟨⟨tra, (), rfl, rfl, by rw [ht]; exact hP9, hD9⟩, hS.F ht⟩) hS.2.2 dX1_part_48
  · have h := dm_f hc1 h
    by_cases hc2 : p0 = (1 : Int32)
    · have h := dm_t hc2 h
      refine lv_tableIn (off := 48) (tgt := 49) hx hb dX1_part_1 (by rw [hc2]; decide) (by rw [hc2]; decide) (by rw [hc2]; decide) (by decide) ?_
      refine lv_aload_n hx hb dX1_part_49 rfl (lv_at hl 0 rfl) ?_
      refine va_get (D := (dC, dI)) (ci := 1) (v := .int trb) (C := RX1) (T := TX1) (N := 8) hx hb hts hinX1 hown hK hP 0 rfl rfl 1 (by decide) (hts (.fieldLink RX1 32 "FormDesk$Reduction" "b" "I") (by decide +kernel)) (fun _ h9 => h9) rfl dX1_part_50 ?_
      obtain hE0 := dm_i1 h
      subst hE0
      rw [hQQ]
      have hP9 := hP.sub (ws' := [(th, .inr (1, [.int tra, .int trb, .int trc, .int trp, .int trq, .int trr, .int trs, .int trd]))]) [0] rfl
      have hD9 := hD.sub (ws' := [(th, .inr (1, [.int tra, .int trb, .int trc, .int trp, .int trq, .int trr, .int trs, .int trd]))]) [0] (by decide) rfl
      exact W.iret (v := trb) hx hb hr (fun t ht hW => ⟨⟨trb, (), rfl, rfl, by rw [ht]; exact hP9, hD9⟩, hS.F ht⟩) hS.2.2 dX1_part_53
    · have h := dm_f hc2 h
      by_cases hc3 : p0 = (2 : Int32)
      · have h := dm_t hc3 h
        refine lv_tableIn (off := 53) (tgt := 54) hx hb dX1_part_1 (by rw [hc3]; decide) (by rw [hc3]; decide) (by rw [hc3]; decide) (by decide) ?_
        refine lv_aload_n hx hb dX1_part_54 rfl (lv_at hl 0 rfl) ?_
        refine va_get (D := (dC, dI)) (ci := 1) (v := .int trc) (C := RX1) (T := TX1) (N := 8) hx hb hts hinX1 hown hK hP 0 rfl rfl 2 (by decide) (hts (.fieldLink RX1 35 "FormDesk$Reduction" "c" "I") (by decide +kernel)) (fun _ h9 => h9) rfl dX1_part_55 ?_
        obtain hE0 := dm_i1 h
        subst hE0
        rw [hQQ]
        have hP9 := hP.sub (ws' := [(th, .inr (1, [.int tra, .int trb, .int trc, .int trp, .int trq, .int trr, .int trs, .int trd]))]) [0] rfl
        have hD9 := hD.sub (ws' := [(th, .inr (1, [.int tra, .int trb, .int trc, .int trp, .int trq, .int trr, .int trs, .int trd]))]) [0] (by decide) rfl
        exact W.iret (v := trc) hx hb hr (fun t ht hW => ⟨⟨trc, (), rfl, rfl, by rw [ht]; exact hP9, hD9⟩, hS.F ht⟩) hS.2.2 dX1_part_58
      · have h := dm_f hc3 h
        by_cases hc4 : p0 = (3 : Int32)
        · have h := dm_t hc4 h
          refine lv_tableIn (off := 58) (tgt := 59) hx hb dX1_part_1 (by rw [hc4]; decide) (by rw [hc4]; decide) (by rw [hc4]; decide) (by decide) ?_
          refine lv_aload_n hx hb dX1_part_59 rfl (lv_at hl 0 rfl) ?_
          refine va_get (D := (dC, dI)) (ci := 1) (v := .int trp) (C := RX1) (T := TX1) (N := 8) hx hb hts hinX1 hown hK hP 0 rfl rfl 3 (by decide) (hts (.fieldLink RX1 38 "FormDesk$Reduction" "p" "I") (by decide +kernel)) (fun _ h9 => h9) rfl dX1_part_60 ?_
          obtain hE0 := dm_i1 h
          subst hE0
          rw [hQQ]
          have hP9 := hP.sub (ws' := [(th, .inr (1, [.int tra, .int trb, .int trc, .int trp, .int trq, .int trr, .int trs, .int trd]))]) [0] rfl
          have hD9 := hD.sub (ws' := [(th, .inr (1, [.int tra, .int trb, .int trc, .int trp, .int trq, .int trr, .int trs, .int trd]))]) [0] (by decide) rfl
          exact W.iret (v := trp) hx hb hr (fun t ht hW => ⟨⟨trp, (), rfl, rfl, by rw [ht]; exact hP9, hD9⟩, hS.F ht⟩) hS.2.2 dX1_part_63
        · have h := dm_f hc4 h
          by_cases hc5 : p0 = (4 : Int32)
          · have h := dm_t hc5 h
            refine lv_tableIn (off := 63) (tgt := 64) hx hb dX1_part_1 (by rw [hc5]; decide) (by rw [hc5]; decide) (by rw [hc5]; decide) (by decide) ?_
            refine lv_aload_n hx hb dX1_part_64 rfl (lv_at hl 0 rfl) ?_
            refine va_get (D := (dC, dI)) (ci := 1) (v := .int trq) (C := RX1) (T := TX1) (N := 8) hx hb hts hinX1 hown hK hP 0 rfl rfl 4 (by decide) (hts (.fieldLink RX1 41 "FormDesk$Reduction" "q" "I") (by decide +kernel)) (fun _ h9 => h9) rfl dX1_part_65 ?_
            obtain hE0 := dm_i1 h
            subst hE0
            rw [hQQ]
            have hP9 := hP.sub (ws' := [(th, .inr (1, [.int tra, .int trb, .int trc, .int trp, .int trq, .int trr, .int trs, .int trd]))]) [0] rfl
            have hD9 := hD.sub (ws' := [(th, .inr (1, [.int tra, .int trb, .int trc, .int trp, .int trq, .int trr, .int trs, .int trd]))]) [0] (by decide) rfl
            exact W.iret (v := trq) hx hb hr (fun t ht hW => ⟨⟨trq, (), rfl, rfl, by rw [ht]; exact hP9, hD9⟩, hS.F ht⟩) hS.2.2 dX1_part_68
          · have h := dm_f hc5 h
            by_cases hc6 : p0 = (5 : Int32)
            · have h := dm_t hc6 h
              refine lv_tableIn (off := 68) (tgt := 69) hx hb dX1_part_1 (by rw [hc6]; decide) (by rw [hc6]; decide) (by rw [hc6]; decide) (by decide) ?_
              refine lv_aload_n hx hb dX1_part_69 rfl (lv_at hl 0 rfl) ?_
              refine va_get (D := (dC, dI)) (ci := 1) (v := .int trr) (C := RX1) (T := TX1) (N := 8) hx hb hts hinX1 hown hK hP 0 rfl rfl 5 (by decide) (hts (.fieldLink RX1 44 "FormDesk$Reduction" "\x72" "I") (by decide +kernel)) (fun _ h9 => h9) rfl dX1_part_70 ?_
              obtain hE0 := dm_i1 h
              subst hE0
              rw [hQQ]
              have hP9 := hP.sub (ws' := [(th, .inr (1, [.int tra, .int trb, .int trc, .int trp, .int trq, .int trr, .int trs, .int trd]))]) [0] rfl
              have hD9 := hD.sub (ws' := [(th, .inr (1, [.int tra, .int trb, .int trc, .int trp, .int trq, .int trr, .int trs, .int trd]))]) [0] (by decide) rfl
              exact W.iret (v := trr) hx hb hr (fun t ht hW => ⟨⟨trr, (), rfl, rfl, by rw [ht]; exact hP9, hD9⟩, hS.F ht⟩) hS.2.2 dX1_part_73
            · have h := dm_f hc6 h
              by_cases hc7 : p0 = (6 : Int32)
              · have h := dm_t hc7 h
                refine lv_tableIn (off := 73) (tgt := 74) hx hb dX1_part_1 (by rw [hc7]; decide) (by rw [hc7]; decide) (by rw [hc7]; decide) (by decide) ?_
                refine lv_aload_n hx hb dX1_part_74 rfl (lv_at hl 0 rfl) ?_
                refine va_get (D := (dC, dI)) (ci := 1) (v := .int trs) (C := RX1) (T := TX1) (N := 8) hx hb hts hinX1 hown hK hP 0 rfl rfl 6 (by decide) (hts (.fieldLink RX1 47 "FormDesk$Reduction" "s" "I") (by decide +kernel)) (fun _ h9 => h9) rfl dX1_part_75 ?_
                obtain hE0 := dm_i1 h
                subst hE0
                rw [hQQ]
                have hP9 := hP.sub (ws' := [(th, .inr (1, [.int tra, .int trb, .int trc, .int trp, .int trq, .int trr, .int trs, .int trd]))]) [0] rfl
                have hD9 := hD.sub (ws' := [(th, .inr (1, [.int tra, .int trb, .int trc, .int trp, .int trq, .int trr, .int trs, .int trd]))]) [0] (by decide) rfl
                exact W.iret (v := trs) hx hb hr (fun t ht hW => ⟨⟨trs, (), rfl, rfl, by rw [ht]; exact hP9, hD9⟩, hS.F ht⟩) hS.2.2 dX1_part_78
              · have h := dm_f hc7 h
                refine lv_tableOut (tgt := 79) hx hb dX1_part_1 (mc_sw7 hc1 hc2 hc3 hc4 hc5 hc6 hc7) (by decide) ?_
                refine lv_aload_n hx hb dX1_part_79 rfl (lv_at hl 0 rfl) ?_
                refine va_get (D := (dC, dI)) (ci := 1) (v := .int trd) (C := RX1) (T := TX1) (N := 8) hx hb hts hinX1 hown hK hP 0 rfl rfl 7 (by decide) (hts (.fieldLink RX1 50 "FormDesk$Reduction" "discriminant" "I") (by decide +kernel)) (fun _ h9 => h9) rfl dX1_part_80 ?_
                obtain hE0 := dm_i1 h
                subst hE0
                rw [hQQ]
                have hP9 := hP.sub (ws' := [(th, .inr (1, [.int tra, .int trb, .int trc, .int trp, .int trq, .int trr, .int trs, .int trd]))]) [0] rfl
                have hD9 := hD.sub (ws' := [(th, .inr (1, [.int tra, .int trb, .int trc, .int trp, .int trq, .int trr, .int trs, .int trd]))]) [0] (by decide) rfl
                exact W.iret (v := trd) hx hb hr (fun t ht hW => ⟨⟨trd, (), rfl, rfl, by rw [ht]; exact hP9, hD9⟩, hS.F ht⟩) hS.2.2 dX1_part_83

def f_X1_start (p0 : Int32) (p1 : Int32) (p2 : Int32) : Option (Int32 × Int32 × Int32 × Int32 × Int32 × Int32 × Int32 × Int32) :=
  dm_let ((p1 * p1) - (((4 : Int32) * p0) * p2)) fun x1 =>
  some (p0, p1, p2, (1 : Int32), (0 : Int32), (0 : Int32), (1 : Int32), x1)
set_option maxHeartbeats 4000000 in
set_option maxRecDepth 100000 in
theorem c_X1_start (l : Launch) (dC : Nat → ClassId) (dI : Nat → Nat → Nat) (cyI cyJ cyC : ClassId) (th : Nat) (sz : Nat) (tra : Int32) (trb : Int32) (trc : Int32) (trp : Int32) (trq : Int32) (trr : Int32) (trs : Int32) (trd : Int32) (p0 : Int32) (p1 : Int32) (p2 : Int32) (tra' : Int32) (trb' : Int32) (trc' : Int32) (trp' : Int32) (trq' : Int32) (trr' : Int32) (trs' : Int32) (trd' : Int32) (hf : f_X1_start p0 p1 p2 = some (tra', trb', trc', trp', trq', trr', trs', trd')) : Met l yX1_start wsX1_start { frames := 0, cells := 0, slots := 0, locals := 0 } (va_Pc [.ref th, .int p0, .int p1, .int p2] (mc_Pre (dC, dI) (mc_tys cyI cyJ cyC) [(th, .inr (1, [.int tra, .int trb, .int trc, .int trp, .int trq, .int trr, .int trs, .int trd]))] sz)) (va_Qv (fun _ : Unit => True) (fun _ t => mc_Post (dC, dI) (va_A [(th, .inr (1, [.int tra, .int trb, .int trc, .int trp, .int trq, .int trr, .int trs, .int trd]))] sz) [(th, .inr (1, [.int tra', .int trb', .int trc', .int trp', .int trq', .int trr', .int trs', .int trd']))] t) (va_A [(th, .inr (1, [.int tra, .int trb, .int trc, .int trp, .int trq, .int trr, .int trs, .int trd]))] sz)) 0 0 (va_A [(th, .inr (1, [.int tra, .int trb, .int trc, .int trp, .int trq, .int trr, .int trs, .int trd]))] sz) := by
  refine Met.ofW (cc := cX1_start) (maxL := 4) (ret := none) (by decide +kernel) rfl ?_
  intro p e s m args below meth c s₁ B hml hv
  obtain ⟨rfl, hsz, hP, hK, hD0, hnw⟩ := hv
  have hx := B.exec
  have hb := B.bytes
  have hr := B.returns
  have hts := atoms_spec (ws := wsX1_start) B.pre
  have hown : s.vm.findClass RX1 = some m.cls := findClass_of_methodNamed B.named
  have hlocks := B.notSynchronized
  have hinX1 : ∀ w ∈ wsX10, w ∈ wsX1_start := by decide +kernel
  subst hsz
  have hD := hD0.self (sz := s.heap.size)
  generalize hAe : va_A [(th, .inr (1, [.int tra, .int trb, .int trc, .int trp, .int trq, .int trr, .int trs, .int trd]))] s.heap.size = A at hD ⊢
  have hA : ∀ q : Nat, s.heap.size ≤ q → A q := fun q h => by rw [← hAe]; exact Or.inr h
  have hS : va_S A s.heap s.heap [] := va_S.rf
  have hP : va_P (dC, dI) vwCl [(th, .inr (1, [.int tra, .int trb, .int trc, .int trp, .int trq, .int trr, .int trs, .int trd]))] s.heap := hP
  have hl := lv_entry ([.ref th, .int p0, .int p1, .int p2]) (n := 4) (Nat.le_of_ble_eq_true rfl)
  rw [lg_entry_eq]
  generalize (lg_sl ([.ref th, .int p0, .int p1, .int p2]) ++ List.replicate (4 - (lg_sl ([.ref th, .int p0, .int p1, .int p2])).length) Slot.unset).toArray = ls at hl ⊢
  have hl : lv_has ls 4 [(0, .ref th), (1, .int p0), (2, .int p1), (3, .int p2)] := hl
  obtain ⟨QQ, hQQ⟩ : ∃ Q, Q = MQ below (va_Qv (fun _ : Unit => True) (fun _ t => mc_Post (dC, dI) A [(th, .inr (1, [.int tra', .int trb', .int trc', .int trp', .int trq', .int trr', .int trs', .int trd']))] t) A) ([Value.ref th, Value.int p0, Value.int p1, Value.int p2] : List Value).toArray s 0 0 A := ⟨_, rfl⟩
  rw [← hQQ]
  have h := hf
  unfold f_X1_start at h
  refine lv_aload_n hx hb dX1_start_0 rfl (lv_at hl 0 rfl) ?_
  refine lv_iload_n hx hb dX1_start_1 rfl (lv_at hl 1 rfl) ?_
  refine va_put (D := (dC, dI)) (ci := 1) (v := .int p0) (ty := .int) (C := RX1) (T := TX1) (N := 8) hx hb hts hinX1 tyX1 tyX1_ok nmX1 hown hK hP hD hS 0 rfl rfl 0 (by decide) (hts (.fieldLink RX1 15 "FormDesk$Reduction" "a" "I") (by decide +kernel)) (fun _ h9 => h9) rfl (by decide +kernel) rfl rfl (Nat.le_of_ble_eq_true rfl) dX1_start_2 (fun H locs hP hD hS => ?_)
  have hP : va_P (dC, dI) vwCl [(th, .inr (1, [.int p0, .int trb, .int trc, .int trp, .int trq, .int trr, .int trs, .int trd]))] H := hP
  have hD : va_D A [(th, .inr (1, [.int p0, .int trb, .int trc, .int trp, .int trq, .int trr, .int trs, .int trd]))] := hD
  refine lv_aload_n hx hb dX1_start_5 rfl (lv_at hl 0 rfl) ?_
  refine lv_iload_n hx hb dX1_start_6 rfl (lv_at hl 2 rfl) ?_
  refine va_put (D := (dC, dI)) (ci := 1) (v := .int p1) (ty := .int) (C := RX1) (T := TX1) (N := 8) hx hb hts hinX1 tyX1 tyX1_ok nmX1 hown hK hP hD hS 0 rfl rfl 1 (by decide) (hts (.fieldLink RX1 32 "FormDesk$Reduction" "b" "I") (by decide +kernel)) (fun _ h9 => h9) rfl (by decide +kernel) rfl rfl (Nat.le_of_ble_eq_true rfl) dX1_start_7 (fun H locs hP hD hS => ?_)
  have hP : va_P (dC, dI) vwCl [(th, .inr (1, [.int p0, .int p1, .int trc, .int trp, .int trq, .int trr, .int trs, .int trd]))] H := hP
  have hD : va_D A [(th, .inr (1, [.int p0, .int p1, .int trc, .int trp, .int trq, .int trr, .int trs, .int trd]))] := hD
  refine lv_aload_n hx hb dX1_start_10 rfl (lv_at hl 0 rfl) ?_
  refine lv_iload_n hx hb dX1_start_11 rfl (lv_at hl 3 rfl) ?_
  refine va_put (D := (dC, dI)) (ci := 1) (v := .int p2) (ty := .int) (C := RX1) (T := TX1) (N := 8) hx hb hts hinX1 tyX1 tyX1_ok nmX1 hown hK hP hD hS 0 rfl rfl 2 (by decide) (hts (.fieldLink RX1 35 "FormDesk$Reduction" "c" "I") (by decide +kernel)) (fun _ h9 => h9) rfl (by decide +kernel) rfl rfl (Nat.le_of_ble_eq_true rfl) dX1_start_12 (fun H locs hP hD hS => ?_)
  have hP : va_P (dC, dI) vwCl [(th, .inr (1, [.int p0, .int p1, .int p2, .int trp, .int trq, .int trr, .int trs, .int trd]))] H := hP
  have hD : va_D A [(th, .inr (1, [.int p0, .int p1, .int p2, .int trp, .int trq, .int trr, .int trs, .int trd]))] := hD
  refine lv_aload_n hx hb dX1_start_15 rfl (lv_at hl 0 rfl) ?_
  refine lv_iconst (v := 1) hx hb dX1_start_16 (by decide) ?_
  refine va_put (D := (dC, dI)) (ci := 1) (v := .int (1 : Int32)) (ty := .int) (C := RX1) (T := TX1) (N := 8) hx hb hts hinX1 tyX1 tyX1_ok nmX1 hown hK hP hD hS 0 rfl rfl 3 (by decide) (hts (.fieldLink RX1 38 "FormDesk$Reduction" "p" "I") (by decide +kernel)) (fun _ h9 => h9) rfl (by decide +kernel) rfl rfl (Nat.le_of_ble_eq_true rfl) dX1_start_17 (fun H locs hP hD hS => ?_)
  have hP : va_P (dC, dI) vwCl [(th, .inr (1, [.int p0, .int p1, .int p2, .int (1 : Int32), .int trq, .int trr, .int trs, .int trd]))] H := hP
  have hD : va_D A [(th, .inr (1, [.int p0, .int p1, .int p2, .int (1 : Int32), .int trq, .int trr, .int trs, .int trd]))] := hD
  refine lv_aload_n hx hb dX1_start_20 rfl (lv_at hl 0 rfl) ?_
  refine lv_iconst (v := 0) hx hb dX1_start_21 (by decide) ?_
  refine va_put (D := (dC, dI)) (ci := 1) (v := .int (0 : Int32)) (ty := .int) (C := RX1) (T := TX1) (N := 8) hx hb hts hinX1 tyX1 tyX1_ok nmX1 hown hK hP hD hS 0 rfl rfl 4 (by decide) (hts (.fieldLink RX1 41 "FormDesk$Reduction" "q" "I") (by decide +kernel)) (fun _ h9 => h9) rfl (by decide +kernel) rfl rfl (Nat.le_of_ble_eq_true rfl) dX1_start_22 (fun H locs hP hD hS => ?_)
  have hP : va_P (dC, dI) vwCl [(th, .inr (1, [.int p0, .int p1, .int p2, .int (1 : Int32), .int (0 : Int32), .int trr, .int trs, .int trd]))] H := hP
  have hD : va_D A [(th, .inr (1, [.int p0, .int p1, .int p2, .int (1 : Int32), .int (0 : Int32), .int trr, .int trs, .int trd]))] := hD
  refine lv_aload_n hx hb dX1_start_25 rfl (lv_at hl 0 rfl) ?_
  refine lv_iconst (v := 0) hx hb dX1_start_26 (by decide) ?_
  refine va_put (D := (dC, dI)) (ci := 1) (v := .int (0 : Int32)) (ty := .int) (C := RX1) (T := TX1) (N := 8) hx hb hts hinX1 tyX1 tyX1_ok nmX1 hown hK hP hD hS 0 rfl rfl 5 (by decide) (hts (.fieldLink RX1 44 "FormDesk$Reduction" "\x72" "I") (by decide +kernel)) (fun _ h9 => h9) rfl (by decide +kernel) rfl rfl (Nat.le_of_ble_eq_true rfl) dX1_start_27 (fun H locs hP hD hS => ?_)
  have hP : va_P (dC, dI) vwCl [(th, .inr (1, [.int p0, .int p1, .int p2, .int (1 : Int32), .int (0 : Int32), .int (0 : Int32), .int trs, .int trd]))] H := hP
  have hD : va_D A [(th, .inr (1, [.int p0, .int p1, .int p2, .int (1 : Int32), .int (0 : Int32), .int (0 : Int32), .int trs, .int trd]))] := hD
  refine lv_aload_n hx hb dX1_start_30 rfl (lv_at hl 0 rfl) ?_
  refine lv_iconst (v := 1) hx hb dX1_start_31 (by decide) ?_
  refine va_put (D := (dC, dI)) (ci := 1) (v := .int (1 : Int32)) (ty := .int) (C := RX1) (T := TX1) (N := 8) hx hb hts hinX1 tyX1 tyX1_ok nmX1 hown hK hP hD hS 0 rfl rfl 6 (by decide) (hts (.fieldLink RX1 47 "FormDesk$Reduction" "s" "I") (by decide +kernel)) (fun _ h9 => h9) rfl (by decide +kernel) rfl rfl (Nat.le_of_ble_eq_true rfl) dX1_start_32 (fun H locs hP hD hS => ?_)
  have hP : va_P (dC, dI) vwCl [(th, .inr (1, [.int p0, .int p1, .int p2, .int (1 : Int32), .int (0 : Int32), .int (0 : Int32), .int (1 : Int32), .int trd]))] H := hP
  have hD : va_D A [(th, .inr (1, [.int p0, .int p1, .int p2, .int (1 : Int32), .int (0 : Int32), .int (0 : Int32), .int (1 : Int32), .int trd]))] := hD
  refine lv_aload_n hx hb dX1_start_35 rfl (lv_at hl 0 rfl) ?_
  refine lv_aload_n hx hb dX1_start_36 rfl (lv_at hl 0 rfl) ?_
  refine va_get (D := (dC, dI)) (ci := 1) (v := .int p1) (C := RX1) (T := TX1) (N := 8) hx hb hts hinX1 hown hK hP 0 rfl rfl 1 (by decide) (hts (.fieldLink RX1 32 "FormDesk$Reduction" "b" "I") (by decide +kernel)) (fun _ h9 => h9) rfl dX1_start_37 ?_
  refine lv_aload_n hx hb dX1_start_40 rfl (lv_at hl 0 rfl) ?_
  refine va_get (D := (dC, dI)) (ci := 1) (v := .int p1) (C := RX1) (T := TX1) (N := 8) hx hb hts hinX1 hown hK hP 0 rfl rfl 1 (by decide) (hts (.fieldLink RX1 32 "FormDesk$Reduction" "b" "I") (by decide +kernel)) (fun _ h9 => h9) rfl dX1_start_41 ?_
  refine lv_imul hx hb dX1_start_44 ?_
  refine lv_iconst (v := 4) hx hb dX1_start_45 (by decide) ?_
  refine lv_aload_n hx hb dX1_start_46 rfl (lv_at hl 0 rfl) ?_
  refine va_get (D := (dC, dI)) (ci := 1) (v := .int p0) (C := RX1) (T := TX1) (N := 8) hx hb hts hinX1 hown hK hP 0 rfl rfl 0 (by decide) (hts (.fieldLink RX1 15 "FormDesk$Reduction" "a" "I") (by decide +kernel)) (fun _ h9 => h9) rfl dX1_start_47 ?_
  refine lv_imul hx hb dX1_start_50 ?_
  refine lv_aload_n hx hb dX1_start_51 rfl (lv_at hl 0 rfl) ?_
  refine va_get (D := (dC, dI)) (ci := 1) (v := .int p2) (C := RX1) (T := TX1) (N := 8) hx hb hts hinX1 hown hK hP 0 rfl rfl 2 (by decide) (hts (.fieldLink RX1 35 "FormDesk$Reduction" "c" "I") (by decide +kernel)) (fun _ h9 => h9) rfl dX1_start_52 ?_
  refine lv_imul hx hb dX1_start_55 ?_
  refine lv_isub hx hb dX1_start_56 ?_
  refine lv_topi (fun x1 ex1 => ?_)
  have h := dm_lu ex1 h
  refine va_put (D := (dC, dI)) (ci := 1) (v := .int x1) (ty := .int) (C := RX1) (T := TX1) (N := 8) hx hb hts hinX1 tyX1 tyX1_ok nmX1 hown hK hP hD hS 0 rfl rfl 7 (by decide) (hts (.fieldLink RX1 50 "FormDesk$Reduction" "discriminant" "I") (by decide +kernel)) (fun _ h9 => h9) rfl (by decide +kernel) rfl rfl (Nat.le_of_ble_eq_true rfl) dX1_start_57 (fun H locs hP hD hS => ?_)
  have hP : va_P (dC, dI) vwCl [(th, .inr (1, [.int p0, .int p1, .int p2, .int (1 : Int32), .int (0 : Int32), .int (0 : Int32), .int (1 : Int32), .int x1]))] H := hP
  have hD : va_D A [(th, .inr (1, [.int p0, .int p1, .int p2, .int (1 : Int32), .int (0 : Int32), .int (0 : Int32), .int (1 : Int32), .int x1]))] := hD
  obtain ⟨hE0, hE1, hE2, hE3, hE4, hE5, hE6, hE7⟩ := dm_i8 h
  subst hE0; subst hE1; subst hE2; subst hE3; subst hE4; subst hE5; subst hE6; subst hE7
  rw [hQQ]
  have hP9 := hP.sub (ws' := [(th, .inr (1, [.int p0, .int p1, .int p2, .int (1 : Int32), .int (0 : Int32), .int (0 : Int32), .int (1 : Int32), .int x1]))]) [0] rfl
  have hD9 := hD.sub (ws' := [(th, .inr (1, [.int p0, .int p1, .int p2, .int (1 : Int32), .int (0 : Int32), .int (0 : Int32), .int (1 : Int32), .int x1]))]) [0] (by decide) rfl
  exact W.vret hx hb hr (fun t ht hW => ⟨⟨(), rfl, trivial, by rw [ht]; exact hP9, hD9⟩, hS.F ht⟩) hS.2.2 dX1_start_60

def f_X1_isReduced (tra : Int32) (trb : Int32) (trc : Int32) : Option (Int32) :=
  dm_let (if 0 ≤ trb then trb else 0 - trb) fun x1 =>
  if tra < x1 then
    some (0 : Int32)
  else
    if trc < tra then
      some (0 : Int32)
    else
      if 0 ≤ trb then
        some (1 : Int32)
      else
        if x1 = tra then
          some (0 : Int32)
        else
          if tra = trc then
            some (0 : Int32)
          else
            some (1 : Int32)
set_option maxHeartbeats 4000000 in
set_option maxRecDepth 100000 in
theorem c_X1_isReduced (l : Launch) (dC : Nat → ClassId) (dI : Nat → Nat → Nat) (cyI cyJ cyC : ClassId) (th : Nat) (sz : Nat) (tra : Int32) (trb : Int32) (trc : Int32) (trp : Int32) (trq : Int32) (trr : Int32) (trs : Int32) (trd : Int32)  (rv : Int32) (hf : f_X1_isReduced tra trb trc = some rv) : Met l yX1_isReduced wsX1_isReduced { frames := 1, cells := 0, slots := 0, locals := 13 } (va_Pc [.ref th] (mc_Pre (dC, dI) (mc_tys cyI cyJ cyC) [(th, .inr (1, [.int tra, .int trb, .int trc, .int trp, .int trq, .int trr, .int trs, .int trd]))] sz)) (va_Qi (fun r (_ : Unit) => r = rv) (fun _ t => mc_Post (dC, dI) (va_A [(th, .inr (1, [.int tra, .int trb, .int trc, .int trp, .int trq, .int trr, .int trs, .int trd]))] sz) [(th, .inr (1, [.int tra, .int trb, .int trc, .int trp, .int trq, .int trr, .int trs, .int trd]))] t) (va_A [(th, .inr (1, [.int tra, .int trb, .int trc, .int trp, .int trq, .int trr, .int trs, .int trd]))] sz)) 0 0 (va_A [(th, .inr (1, [.int tra, .int trb, .int trc, .int trp, .int trq, .int trr, .int trs, .int trd]))] sz) := by
  refine Met.ofW (cc := cX1_isReduced) (maxL := 2) (ret := (some .boolean)) (by decide +kernel) rfl ?_
  intro p e s m args below meth c s₁ B hml hv
  obtain ⟨rfl, hsz, hP, hK, hD0, hnw⟩ := hv
  have hx := B.exec
  have hb := B.bytes
  have hr := B.returns
  have hts := atoms_spec (ws := wsX1_isReduced) B.pre
  have hown : s.vm.findClass RX1 = some m.cls := findClass_of_methodNamed B.named
  have hlocks := B.notSynchronized
  have hinX1 : ∀ w ∈ wsX10, w ∈ wsX1_isReduced := by decide +kernel
  subst hsz
  have hD := hD0.self (sz := s.heap.size)
  generalize hAe : va_A [(th, .inr (1, [.int tra, .int trb, .int trc, .int trp, .int trq, .int trr, .int trs, .int trd]))] s.heap.size = A at hD ⊢
  have hA : ∀ q : Nat, s.heap.size ≤ q → A q := fun q h => by rw [← hAe]; exact Or.inr h
  have hS : va_S A s.heap s.heap [] := va_S.rf
  have hP : va_P (dC, dI) vwCl [(th, .inr (1, [.int tra, .int trb, .int trc, .int trp, .int trq, .int trr, .int trs, .int trd]))] s.heap := hP
  have hl := lv_entry ([.ref th]) (n := 2) (Nat.le_of_ble_eq_true rfl)
  rw [lg_entry_eq]
  generalize (lg_sl ([.ref th]) ++ List.replicate (2 - (lg_sl ([.ref th])).length) Slot.unset).toArray = ls at hl ⊢
  have hl : lv_has ls 2 [(0, .ref th)] := hl
  obtain ⟨QQ, hQQ⟩ : ∃ Q, Q = MQ below (va_Qi (fun r (_ : Unit) => r = rv) (fun _ t => mc_Post (dC, dI) A [(th, .inr (1, [.int tra, .int trb, .int trc, .int trp, .int trq, .int trr, .int trs, .int trd]))] t) A) ([Value.ref th] : List Value).toArray s 0 0 A := ⟨_, rfl⟩
  rw [← hQQ]
  have h := hf
  unfold f_X1_isReduced at h
  refine lv_aload_n hx hb dX1_isReduced_0 rfl (lv_at hl 0 rfl) ?_
  refine va_get (D := (dC, dI)) (ci := 1) (v := .int trb) (C := RX1) (T := TX1) (N := 8) hx hb hts hinX1 hown hK hP 0 rfl rfl 1 (by decide) (hts (.fieldLink RX1 32 "FormDesk$Reduction" "b" "I") (by decide +kernel)) (fun _ h9 => h9) rfl dX1_isReduced_1 ?_
  refine va_mabs hx hb (hml.trans hl.1.symm) hown (hts (.methodLink RX1 53 Lib.Math.abs.name) (by decide +kernel)) (hts (.static Lib.Math.abs.name) (by decide +kernel)) (hts (.initialized "java/lang/Math") (by decide +kernel)) (hts (.code Lib.Math.abs.name Lib.Math.abs.code 1 (some .int)) (by decide +kernel)) (Nat.le_of_ble_eq_true rfl) (Nat.le_of_ble_eq_true rfl) (Nat.zero_le _) (Nat.zero_le _) dX1_isReduced_4 ?_
  refine lv_topi (fun x1 ex1 => ?_)
  have h := dm_lu ex1 h
  refine lv_istore_n (lv' := [(1, .int x1), (0, .ref th)]) hx hb dX1_isReduced_7 rfl hl (by decide) rfl (fun ls hl => ?_)
  refine lv_iload_n hx hb dX1_isReduced_8 rfl (lv_at hl 0 rfl) ?_
  refine lv_aload_n hx hb dX1_isReduced_9 rfl (lv_at hl 1 rfl) ?_
  refine va_get (D := (dC, dI)) (ci := 1) (v := .int tra) (C := RX1) (T := TX1) (N := 8) hx hb hts hinX1 hown hK hP 0 rfl rfl 0 (by decide) (hts (.fieldLink RX1 15 "FormDesk$Reduction" "a" "I") (by decide +kernel)) (fun _ h9 => h9) rfl dX1_isReduced_10 ?_
  refine lv_icmp_gt (tgt := 57) hx hb dX1_isReduced_13 (by decide) (fun hc2 => ?_) (fun hc2 => ?_)
  · have h := dm_t hc2 h
    refine lv_iconst (v := 0) hx hb dX1_isReduced_57 (by decide) ?_
    obtain hE0 := dm_i1 h
    subst hE0
    rw [hQQ]
    have hP9 := hP.sub (ws' := [(th, .inr (1, [.int tra, .int trb, .int trc, .int trp, .int trq, .int trr, .int trs, .int trd]))]) [0] rfl
    have hD9 := hD.sub (ws' := [(th, .inr (1, [.int tra, .int trb, .int trc, .int trp, .int trq, .int trr, .int trs, .int trd]))]) [0] (by decide) rfl
    exact W.zret (v := (0 : Int32)) hx hb hr rfl (fun t ht hW => ⟨⟨(0 : Int32), (), rfl, rfl, by rw [ht]; exact hP9, hD9⟩, hS.F ht⟩) hS.2.2 dX1_isReduced_58
  · have h := dm_f hc2 h
    refine lv_aload_n hx hb dX1_isReduced_16 rfl (lv_at hl 1 rfl) ?_
    refine va_get (D := (dC, dI)) (ci := 1) (v := .int tra) (C := RX1) (T := TX1) (N := 8) hx hb hts hinX1 hown hK hP 0 rfl rfl 0 (by decide) (hts (.fieldLink RX1 15 "FormDesk$Reduction" "a" "I") (by decide +kernel)) (fun _ h9 => h9) rfl dX1_isReduced_17 ?_
    refine lv_aload_n hx hb dX1_isReduced_20 rfl (lv_at hl 1 rfl) ?_
    refine va_get (D := (dC, dI)) (ci := 1) (v := .int trc) (C := RX1) (T := TX1) (N := 8) hx hb hts hinX1 hown hK hP 0 rfl rfl 2 (by decide) (hts (.fieldLink RX1 35 "FormDesk$Reduction" "c" "I") (by decide +kernel)) (fun _ h9 => h9) rfl dX1_isReduced_21 ?_
    refine lv_icmp_gt (tgt := 57) hx hb dX1_isReduced_24 (by decide) (fun hc3 => ?_) (fun hc3 => ?_)
    · have h := dm_t hc3 h
      refine lv_iconst (v := 0) hx hb dX1_isReduced_57 (by decide) ?_
      obtain hE0 := dm_i1 h
      subst hE0
      rw [hQQ]
      have hP9 := hP.sub (ws' := [(th, .inr (1, [.int tra, .int trb, .int trc, .int trp, .int trq, .int trr, .int trs, .int trd]))]) [0] rfl
      have hD9 := hD.sub (ws' := [(th, .inr (1, [.int tra, .int trb, .int trc, .int trp, .int trq, .int trr, .int trs, .int trd]))]) [0] (by decide) rfl
      exact W.zret (v := (0 : Int32)) hx hb hr rfl (fun t ht hW => ⟨⟨(0 : Int32), (), rfl, rfl, by rw [ht]; exact hP9, hD9⟩, hS.F ht⟩) hS.2.2 dX1_isReduced_58
    · have h := dm_f hc3 h
      refine lv_aload_n hx hb dX1_isReduced_27 rfl (lv_at hl 1 rfl) ?_
      refine va_get (D := (dC, dI)) (ci := 1) (v := .int trb) (C := RX1) (T := TX1) (N := 8) hx hb hts hinX1 hown hK hP 0 rfl rfl 1 (by decide) (hts (.fieldLink RX1 32 "FormDesk$Reduction" "b" "I") (by decide +kernel)) (fun _ h9 => h9) rfl dX1_isReduced_28 ?_
      refine lv_if_ge (tgt := 53) hx hb dX1_isReduced_31 (by decide) (fun hc4 => ?_) (fun hc4 => ?_)
      · have h := dm_t hc4 h
        refine lv_iconst (v := 1) hx hb dX1_isReduced_53 (by decide) ?_
        refine lv_goto (tgt := 58) hx hb dX1_isReduced_54 (by decide) ?_
        obtain hE0 := dm_i1 h
        subst hE0
        rw [hQQ]
        have hP9 := hP.sub (ws' := [(th, .inr (1, [.int tra, .int trb, .int trc, .int trp, .int trq, .int trr, .int trs, .int trd]))]) [0] rfl
        have hD9 := hD.sub (ws' := [(th, .inr (1, [.int tra, .int trb, .int trc, .int trp, .int trq, .int trr, .int trs, .int trd]))]) [0] (by decide) rfl
        exact W.zret (v := (1 : Int32)) hx hb hr rfl (fun t ht hW => ⟨⟨(1 : Int32), (), rfl, rfl, by rw [ht]; exact hP9, hD9⟩, hS.F ht⟩) hS.2.2 dX1_isReduced_58
      · have h := dm_f hc4 h
        refine lv_iload_n hx hb dX1_isReduced_34 rfl (lv_at hl 0 rfl) ?_
        refine lv_aload_n hx hb dX1_isReduced_35 rfl (lv_at hl 1 rfl) ?_
        refine va_get (D := (dC, dI)) (ci := 1) (v := .int tra) (C := RX1) (T := TX1) (N := 8) hx hb hts hinX1 hown hK hP 0 rfl rfl 0 (by decide) (hts (.fieldLink RX1 15 "FormDesk$Reduction" "a" "I") (by decide +kernel)) (fun _ h9 => h9) rfl dX1_isReduced_36 ?_
        refine lv_icmp_eq (tgt := 57) hx hb dX1_isReduced_39 (by decide) (fun hc5 => ?_) (fun hc5 => ?_)
        · have h := dm_t hc5 h
          refine lv_iconst (v := 0) hx hb dX1_isReduced_57 (by decide) ?_
          obtain hE0 := dm_i1 h
          subst hE0
          rw [hQQ]
          have hP9 := hP.sub (ws' := [(th, .inr (1, [.int tra, .int trb, .int trc, .int trp, .int trq, .int trr, .int trs, .int trd]))]) [0] rfl
          have hD9 := hD.sub (ws' := [(th, .inr (1, [.int tra, .int trb, .int trc, .int trp, .int trq, .int trr, .int trs, .int trd]))]) [0] (by decide) rfl
          exact W.zret (v := (0 : Int32)) hx hb hr rfl (fun t ht hW => ⟨⟨(0 : Int32), (), rfl, rfl, by rw [ht]; exact hP9, hD9⟩, hS.F ht⟩) hS.2.2 dX1_isReduced_58
        · have h := dm_f hc5 h
          refine lv_aload_n hx hb dX1_isReduced_42 rfl (lv_at hl 1 rfl) ?_
          refine va_get (D := (dC, dI)) (ci := 1) (v := .int tra) (C := RX1) (T := TX1) (N := 8) hx hb hts hinX1 hown hK hP 0 rfl rfl 0 (by decide) (hts (.fieldLink RX1 15 "FormDesk$Reduction" "a" "I") (by decide +kernel)) (fun _ h9 => h9) rfl dX1_isReduced_43 ?_
          refine lv_aload_n hx hb dX1_isReduced_46 rfl (lv_at hl 1 rfl) ?_
          refine va_get (D := (dC, dI)) (ci := 1) (v := .int trc) (C := RX1) (T := TX1) (N := 8) hx hb hts hinX1 hown hK hP 0 rfl rfl 2 (by decide) (hts (.fieldLink RX1 35 "FormDesk$Reduction" "c" "I") (by decide +kernel)) (fun _ h9 => h9) rfl dX1_isReduced_47 ?_
          refine lv_icmp_eq (tgt := 57) hx hb dX1_isReduced_50 (by decide) (fun hc6 => ?_) (fun hc6 => ?_)
          · have h := dm_t hc6 h
            refine lv_iconst (v := 0) hx hb dX1_isReduced_57 (by decide) ?_
            obtain hE0 := dm_i1 h
            subst hE0
            rw [hQQ]
            have hP9 := hP.sub (ws' := [(th, .inr (1, [.int tra, .int trb, .int trc, .int trp, .int trq, .int trr, .int trs, .int trd]))]) [0] rfl
            have hD9 := hD.sub (ws' := [(th, .inr (1, [.int tra, .int trb, .int trc, .int trp, .int trq, .int trr, .int trs, .int trd]))]) [0] (by decide) rfl
            exact W.zret (v := (0 : Int32)) hx hb hr rfl (fun t ht hW => ⟨⟨(0 : Int32), (), rfl, rfl, by rw [ht]; exact hP9, hD9⟩, hS.F ht⟩) hS.2.2 dX1_isReduced_58
          · have h := dm_f hc6 h
            refine lv_iconst (v := 1) hx hb dX1_isReduced_53 (by decide) ?_
            refine lv_goto (tgt := 58) hx hb dX1_isReduced_54 (by decide) ?_
            obtain hE0 := dm_i1 h
            subst hE0
            rw [hQQ]
            have hP9 := hP.sub (ws' := [(th, .inr (1, [.int tra, .int trb, .int trc, .int trp, .int trq, .int trr, .int trs, .int trd]))]) [0] rfl
            have hD9 := hD.sub (ws' := [(th, .inr (1, [.int tra, .int trb, .int trc, .int trp, .int trq, .int trr, .int trs, .int trd]))]) [0] (by decide) rfl
            exact W.zret (v := (1 : Int32)) hx hb hr rfl (fun t ht hW => ⟨⟨(1 : Int32), (), rfl, rfl, by rw [ht]; exact hP9, hD9⟩, hS.F ht⟩) hS.2.2 dX1_isReduced_58

def f_X1_needsShift (tra : Int32) (trb : Int32) : Option (Int32) :=
  if tra < (if 0 ≤ trb then trb else 0 - trb) then
    some (1 : Int32)
  else
    if trb = (-tra) then
      some (1 : Int32)
    else
      some (0 : Int32)
set_option maxHeartbeats 4000000 in
set_option maxRecDepth 100000 in
theorem c_X1_needsShift (l : Launch) (dC : Nat → ClassId) (dI : Nat → Nat → Nat) (cyI cyJ cyC : ClassId) (th : Nat) (sz : Nat) (tra : Int32) (trb : Int32) (trc : Int32) (trp : Int32) (trq : Int32) (trr : Int32) (trs : Int32) (trd : Int32)  (rv : Int32) (hf : f_X1_needsShift tra trb = some rv) : Met l yX1_needsShift wsX1_needsShift { frames := 1, cells := 0, slots := 0, locals := 13 } (va_Pc [.ref th] (mc_Pre (dC, dI) (mc_tys cyI cyJ cyC) [(th, .inr (1, [.int tra, .int trb, .int trc, .int trp, .int trq, .int trr, .int trs, .int trd]))] sz)) (va_Qi (fun r (_ : Unit) => r = rv) (fun _ t => mc_Post (dC, dI) (va_A [(th, .inr (1, [.int tra, .int trb, .int trc, .int trp, .int trq, .int trr, .int trs, .int trd]))] sz) [(th, .inr (1, [.int tra, .int trb, .int trc, .int trp, .int trq, .int trr, .int trs, .int trd]))] t) (va_A [(th, .inr (1, [.int tra, .int trb, .int trc, .int trp, .int trq, .int trr, .int trs, .int trd]))] sz)) 0 0 (va_A [(th, .inr (1, [.int tra, .int trb, .int trc, .int trp, .int trq, .int trr, .int trs, .int trd]))] sz) := by
  refine Met.ofW (cc := cX1_needsShift) (maxL := 1) (ret := (some .boolean)) (by decide +kernel) rfl ?_
  intro p e s m args below meth c s₁ B hml hv
  obtain ⟨rfl, hsz, hP, hK, hD0, hnw⟩ := hv
  have hx := B.exec
  have hb := B.bytes
  have hr := B.returns
  have hts := atoms_spec (ws := wsX1_needsShift) B.pre
  have hown : s.vm.findClass RX1 = some m.cls := findClass_of_methodNamed B.named
  have hlocks := B.notSynchronized
  have hinX1 : ∀ w ∈ wsX10, w ∈ wsX1_needsShift := by decide +kernel
  subst hsz
  have hD := hD0.self (sz := s.heap.size)
  generalize hAe : va_A [(th, .inr (1, [.int tra, .int trb, .int trc, .int trp, .int trq, .int trr, .int trs, .int trd]))] s.heap.size = A at hD ⊢
  have hA : ∀ q : Nat, s.heap.size ≤ q → A q := fun q h => by rw [← hAe]; exact Or.inr h
  have hS : va_S A s.heap s.heap [] := va_S.rf
  have hP : va_P (dC, dI) vwCl [(th, .inr (1, [.int tra, .int trb, .int trc, .int trp, .int trq, .int trr, .int trs, .int trd]))] s.heap := hP
  have hl := lv_entry ([.ref th]) (n := 1) (Nat.le_of_ble_eq_true rfl)
  rw [lg_entry_eq]
  generalize (lg_sl ([.ref th]) ++ List.replicate (1 - (lg_sl ([.ref th])).length) Slot.unset).toArray = ls at hl ⊢
  have hl : lv_has ls 1 [(0, .ref th)] := hl
  obtain ⟨QQ, hQQ⟩ : ∃ Q, Q = MQ below (va_Qi (fun r (_ : Unit) => r = rv) (fun _ t => mc_Post (dC, dI) A [(th, .inr (1, [.int tra, .int trb, .int trc, .int trp, .int trq, .int trr, .int trs, .int trd]))] t) A) ([Value.ref th] : List Value).toArray s 0 0 A := ⟨_, rfl⟩
  rw [← hQQ]
  have h := hf
  unfold f_X1_needsShift at h
  refine lv_aload_n hx hb dX1_needsShift_0 rfl (lv_at hl 0 rfl) ?_
  refine va_get (D := (dC, dI)) (ci := 1) (v := .int trb) (C := RX1) (T := TX1) (N := 8) hx hb hts hinX1 hown hK hP 0 rfl rfl 1 (by decide) (hts (.fieldLink RX1 32 "FormDesk$Reduction" "b" "I") (by decide +kernel)) (fun _ h9 => h9) rfl dX1_needsShift_1 ?_
  refine va_mabs hx hb (hml.trans hl.1.symm) hown (hts (.methodLink RX1 53 Lib.Math.abs.name) (by decide +kernel)) (hts (.static Lib.Math.abs.name) (by decide +kernel)) (hts (.initialized "java/lang/Math") (by decide +kernel)) (hts (.code Lib.Math.abs.name Lib.Math.abs.code 1 (some .int)) (by decide +kernel)) (Nat.le_of_ble_eq_true rfl) (Nat.le_of_ble_eq_true rfl) (Nat.zero_le _) (Nat.zero_le _) dX1_needsShift_4 ?_
  refine lv_aload_n hx hb dX1_needsShift_7 rfl (lv_at hl 0 rfl) ?_
  refine va_get (D := (dC, dI)) (ci := 1) (v := .int tra) (C := RX1) (T := TX1) (N := 8) hx hb hts hinX1 hown hK hP 0 rfl rfl 0 (by decide) (hts (.fieldLink RX1 15 "FormDesk$Reduction" "a" "I") (by decide +kernel)) (fun _ h9 => h9) rfl dX1_needsShift_8 ?_
  refine lv_icmp_gt (tgt := 26) hx hb dX1_needsShift_11 (by decide) (fun hc1 => ?_) (fun hc1 => ?_)
  · have h := dm_t hc1 h
    refine lv_iconst (v := 1) hx hb dX1_needsShift_26 (by decide) ?_
    refine lv_goto (tgt := 31) hx hb dX1_needsShift_27 (by decide) ?_
    obtain hE0 := dm_i1 h
    subst hE0
    rw [hQQ]
    have hP9 := hP.sub (ws' := [(th, .inr (1, [.int tra, .int trb, .int trc, .int trp, .int trq, .int trr, .int trs, .int trd]))]) [0] rfl
    have hD9 := hD.sub (ws' := [(th, .inr (1, [.int tra, .int trb, .int trc, .int trp, .int trq, .int trr, .int trs, .int trd]))]) [0] (by decide) rfl
    exact W.zret (v := (1 : Int32)) hx hb hr rfl (fun t ht hW => ⟨⟨(1 : Int32), (), rfl, rfl, by rw [ht]; exact hP9, hD9⟩, hS.F ht⟩) hS.2.2 dX1_needsShift_31
  · have h := dm_f hc1 h
    refine lv_aload_n hx hb dX1_needsShift_14 rfl (lv_at hl 0 rfl) ?_
    refine va_get (D := (dC, dI)) (ci := 1) (v := .int trb) (C := RX1) (T := TX1) (N := 8) hx hb hts hinX1 hown hK hP 0 rfl rfl 1 (by decide) (hts (.fieldLink RX1 32 "FormDesk$Reduction" "b" "I") (by decide +kernel)) (fun _ h9 => h9) rfl dX1_needsShift_15 ?_
    refine lv_aload_n hx hb dX1_needsShift_18 rfl (lv_at hl 0 rfl) ?_
    refine va_get (D := (dC, dI)) (ci := 1) (v := .int tra) (C := RX1) (T := TX1) (N := 8) hx hb hts hinX1 hown hK hP 0 rfl rfl 0 (by decide) (hts (.fieldLink RX1 15 "FormDesk$Reduction" "a" "I") (by decide +kernel)) (fun _ h9 => h9) rfl dX1_needsShift_19 ?_
    refine lv_ineg hx hb dX1_needsShift_22 ?_
    refine lv_icmp_ne (tgt := 30) hx hb dX1_needsShift_23 (by decide) (fun hc2 => ?_) (fun hc2 => ?_)
    · have h := dm_f hc2 h
      refine lv_iconst (v := 0) hx hb dX1_needsShift_30 (by decide) ?_
      obtain hE0 := dm_i1 h
      subst hE0
      rw [hQQ]
      have hP9 := hP.sub (ws' := [(th, .inr (1, [.int tra, .int trb, .int trc, .int trp, .int trq, .int trr, .int trs, .int trd]))]) [0] rfl
      have hD9 := hD.sub (ws' := [(th, .inr (1, [.int tra, .int trb, .int trc, .int trp, .int trq, .int trr, .int trs, .int trd]))]) [0] (by decide) rfl
      exact W.zret (v := (0 : Int32)) hx hb hr rfl (fun t ht hW => ⟨⟨(0 : Int32), (), rfl, rfl, by rw [ht]; exact hP9, hD9⟩, hS.F ht⟩) hS.2.2 dX1_needsShift_31
    · have h := dm_t hc2 h
      refine lv_iconst (v := 1) hx hb dX1_needsShift_26 (by decide) ?_
      refine lv_goto (tgt := 31) hx hb dX1_needsShift_27 (by decide) ?_
      obtain hE0 := dm_i1 h
      subst hE0
      rw [hQQ]
      have hP9 := hP.sub (ws' := [(th, .inr (1, [.int tra, .int trb, .int trc, .int trp, .int trq, .int trr, .int trs, .int trd]))]) [0] rfl
      have hD9 := hD.sub (ws' := [(th, .inr (1, [.int tra, .int trb, .int trc, .int trp, .int trq, .int trr, .int trs, .int trd]))]) [0] (by decide) rfl
      exact W.zret (v := (1 : Int32)) hx hb hr rfl (fun t ht hW => ⟨⟨(1 : Int32), (), rfl, rfl, by rw [ht]; exact hP9, hD9⟩, hS.F ht⟩) hS.2.2 dX1_needsShift_31

def f_X1_shift (tra : Int32) (trb : Int32) (trc : Int32) (trp : Int32) (trq : Int32) (trr : Int32) (trs : Int32) : Option (Int32 × Int32 × Int32 × Int32) :=
  dm_b1 (f_J9_floorDiv_7cf53 (tra - trb) ((2 : Int32) * tra)) fun r1 =>
  dm_let ((((tra * r1) + trb) * r1) + trc) fun x3 =>
  dm_let (trb + (((2 : Int32) * tra) * r1)) fun x4 =>
  dm_let ((trp * r1) + trq) fun x5 =>
  dm_let ((trr * r1) + trs) fun x6 =>
  some (x4, x3, x5, x6)
set_option maxHeartbeats 4000000 in
set_option maxRecDepth 100000 in
theorem c_X1_shift (l : Launch) (dC : Nat → ClassId) (dI : Nat → Nat → Nat) (cyI cyJ cyC : ClassId) (th : Nat) (sz : Nat) (tra : Int32) (trb : Int32) (trc : Int32) (trp : Int32) (trq : Int32) (trr : Int32) (trs : Int32) (trd : Int32)  (trb' : Int32) (trc' : Int32) (trq' : Int32) (trs' : Int32) (hf : f_X1_shift tra trb trc trp trq trr trs = some (trb', trc', trq', trs')) : Met l yX1_shift wsX1_shift { frames := 1, cells := 0, slots := 0, locals := 22 } (va_Pc [.ref th] (mc_Pre (dC, dI) (mc_tys cyI cyJ cyC) [(th, .inr (1, [.int tra, .int trb, .int trc, .int trp, .int trq, .int trr, .int trs, .int trd]))] sz)) (va_Qv (fun _ : Unit => True) (fun _ t => mc_Post (dC, dI) (va_A [(th, .inr (1, [.int tra, .int trb, .int trc, .int trp, .int trq, .int trr, .int trs, .int trd]))] sz) [(th, .inr (1, [.int tra, .int trb', .int trc', .int trp, .int trq', .int trr, .int trs', .int trd]))] t) (va_A [(th, .inr (1, [.int tra, .int trb, .int trc, .int trp, .int trq, .int trr, .int trs, .int trd]))] sz)) 0 0 (va_A [(th, .inr (1, [.int tra, .int trb, .int trc, .int trp, .int trq, .int trr, .int trs, .int trd]))] sz) := by
  refine Met.ofW (cc := cX1_shift) (maxL := 2) (ret := none) (by decide +kernel) rfl ?_
  intro p e s m args below meth c s₁ B hml hv
  obtain ⟨rfl, hsz, hP, hK, hD0, hnw⟩ := hv
  have hx := B.exec
  have hb := B.bytes
  have hr := B.returns
  have hts := atoms_spec (ws := wsX1_shift) B.pre
  have hown : s.vm.findClass RX1 = some m.cls := findClass_of_methodNamed B.named
  have hlocks := B.notSynchronized
  have hinX1 : ∀ w ∈ wsX10, w ∈ wsX1_shift := by decide +kernel
  subst hsz
  have hD := hD0.self (sz := s.heap.size)
  generalize hAe : va_A [(th, .inr (1, [.int tra, .int trb, .int trc, .int trp, .int trq, .int trr, .int trs, .int trd]))] s.heap.size = A at hD ⊢
  have hA : ∀ q : Nat, s.heap.size ≤ q → A q := fun q h => by rw [← hAe]; exact Or.inr h
  have hS : va_S A s.heap s.heap [] := va_S.rf
  have hP : va_P (dC, dI) vwCl [(th, .inr (1, [.int tra, .int trb, .int trc, .int trp, .int trq, .int trr, .int trs, .int trd]))] s.heap := hP
  have hl := lv_entry ([.ref th]) (n := 2) (Nat.le_of_ble_eq_true rfl)
  rw [lg_entry_eq]
  generalize (lg_sl ([.ref th]) ++ List.replicate (2 - (lg_sl ([.ref th])).length) Slot.unset).toArray = ls at hl ⊢
  have hl : lv_has ls 2 [(0, .ref th)] := hl
  obtain ⟨QQ, hQQ⟩ : ∃ Q, Q = MQ below (va_Qv (fun _ : Unit => True) (fun _ t => mc_Post (dC, dI) A [(th, .inr (1, [.int tra, .int trb', .int trc', .int trp, .int trq', .int trr, .int trs', .int trd]))] t) A) ([Value.ref th] : List Value).toArray s 0 0 A := ⟨_, rfl⟩
  rw [← hQQ]
  have h := hf
  unfold f_X1_shift at h
  refine lv_aload_n hx hb dX1_shift_0 rfl (lv_at hl 0 rfl) ?_
  refine va_get (D := (dC, dI)) (ci := 1) (v := .int tra) (C := RX1) (T := TX1) (N := 8) hx hb hts hinX1 hown hK hP 0 rfl rfl 0 (by decide) (hts (.fieldLink RX1 15 "FormDesk$Reduction" "a" "I") (by decide +kernel)) (fun _ h9 => h9) rfl dX1_shift_1 ?_
  refine lv_aload_n hx hb dX1_shift_4 rfl (lv_at hl 0 rfl) ?_
  refine va_get (D := (dC, dI)) (ci := 1) (v := .int trb) (C := RX1) (T := TX1) (N := 8) hx hb hts hinX1 hown hK hP 0 rfl rfl 1 (by decide) (hts (.fieldLink RX1 32 "FormDesk$Reduction" "b" "I") (by decide +kernel)) (fun _ h9 => h9) rfl dX1_shift_5 ?_
  refine lv_isub hx hb dX1_shift_8 ?_
  refine lv_iconst (v := 2) hx hb dX1_shift_9 (by decide) ?_
  refine lv_aload_n hx hb dX1_shift_10 rfl (lv_at hl 0 rfl) ?_
  refine va_get (D := (dC, dI)) (ci := 1) (v := .int tra) (C := RX1) (T := TX1) (N := 8) hx hb hts hinX1 hown hK hP 0 rfl rfl 0 (by decide) (hts (.fieldLink RX1 15 "FormDesk$Reduction" "a" "I") (by decide +kernel)) (fun _ h9 => h9) rfl dX1_shift_11 ?_
  refine lv_imul hx hb dX1_shift_14 ?_
  obtain ⟨r1, hk2, h⟩ := dm_b1s h
  refine mc_i (wr := [(th, .inr (1, [.int tra, .int trb, .int trc, .int trp, .int trq, .int trr, .int trs, .int trd]))]) (va_runS (As := [.int (tra - trb), .int ((2 : Int32) * tra)]) (rest := []) ⟨hx, hb, hml, hown, hts⟩ (c_J9_floorDiv_7cf53 l dC dI cyI cyJ cyC s.heap.size (tra - trb) ((2 : Int32) * tra) r1 hk2) (va_cwS 2 hts gX1_shift_J9_floorDiv_7cf53 rfl rfl rfl (by decide +kernel) ⟨(Nat.le_of_ble_eq_true rfl), (Nat.le_of_ble_eq_true rfl)⟩) (mc_preS hK (hP.sub (ws' := []) [] rfl) (hD.sub (ws' := []) [] (by decide) rfl) hnw) rfl rfl hl.1 rfl (lv_room (Nat.le_of_ble_eq_true rfl)) dX1_shift_15 ⟨Nat.zero_le _, Nat.zero_le _⟩) hP hD hS hA [] [0] rfl rfl rfl (by decide) (fun H locs hP hD hS => ?_)
  have hP : va_P (dC, dI) vwCl [(th, .inr (1, [.int tra, .int trb, .int trc, .int trp, .int trq, .int trr, .int trs, .int trd]))] H := hP
  have hD : va_D A [(th, .inr (1, [.int tra, .int trb, .int trc, .int trp, .int trq, .int trr, .int trs, .int trd]))] := hD
  refine lv_istore_n (lv' := [(1, .int r1), (0, .ref th)]) hx hb dX1_shift_18 rfl hl (by decide) rfl (fun ls hl => ?_)
  refine lv_aload_n hx hb dX1_shift_19 rfl (lv_at hl 1 rfl) ?_
  refine lv_aload_n hx hb dX1_shift_20 rfl (lv_at hl 1 rfl) ?_
  refine va_get (D := (dC, dI)) (ci := 1) (v := .int tra) (C := RX1) (T := TX1) (N := 8) hx hb hts hinX1 hown hK hP 0 rfl rfl 0 (by decide) (hts (.fieldLink RX1 15 "FormDesk$Reduction" "a" "I") (by decide +kernel)) (fun _ h9 => h9) rfl dX1_shift_21 ?_
  refine lv_iload_n hx hb dX1_shift_24 rfl (lv_at hl 0 rfl) ?_
  refine lv_imul hx hb dX1_shift_25 ?_
  refine lv_aload_n hx hb dX1_shift_26 rfl (lv_at hl 1 rfl) ?_
  refine va_get (D := (dC, dI)) (ci := 1) (v := .int trb) (C := RX1) (T := TX1) (N := 8) hx hb hts hinX1 hown hK hP 0 rfl rfl 1 (by decide) (hts (.fieldLink RX1 32 "FormDesk$Reduction" "b" "I") (by decide +kernel)) (fun _ h9 => h9) rfl dX1_shift_27 ?_
  refine lv_iadd hx hb dX1_shift_30 ?_
  refine lv_iload_n hx hb dX1_shift_31 rfl (lv_at hl 0 rfl) ?_
  refine lv_imul hx hb dX1_shift_32 ?_
  refine lv_aload_n hx hb dX1_shift_33 rfl (lv_at hl 1 rfl) ?_
  refine va_get (D := (dC, dI)) (ci := 1) (v := .int trc) (C := RX1) (T := TX1) (N := 8) hx hb hts hinX1 hown hK hP 0 rfl rfl 2 (by decide) (hts (.fieldLink RX1 35 "FormDesk$Reduction" "c" "I") (by decide +kernel)) (fun _ h9 => h9) rfl dX1_shift_34 ?_
  refine lv_iadd hx hb dX1_shift_37 ?_
  refine lv_topi (fun x3 ex3 => ?_)
  have h := dm_lu ex3 h
  refine va_put (D := (dC, dI)) (ci := 1) (v := .int x3) (ty := .int) (C := RX1) (T := TX1) (N := 8) hx hb hts hinX1 tyX1 tyX1_ok nmX1 hown hK hP hD hS 0 rfl rfl 2 (by decide) (hts (.fieldLink RX1 35 "FormDesk$Reduction" "c" "I") (by decide +kernel)) (fun _ h9 => h9) rfl (by decide +kernel) rfl rfl (Nat.le_of_ble_eq_true rfl) dX1_shift_38 (fun H locs hP hD hS => ?_)
  have hP : va_P (dC, dI) vwCl [(th, .inr (1, [.int tra, .int trb, .int x3, .int trp, .int trq, .int trr, .int trs, .int trd]))] H := hP
  have hD : va_D A [(th, .inr (1, [.int tra, .int trb, .int x3, .int trp, .int trq, .int trr, .int trs, .int trd]))] := hD
  refine lv_aload_n hx hb dX1_shift_41 rfl (lv_at hl 1 rfl) ?_
  refine lv_aload_n hx hb dX1_shift_42 rfl (lv_at hl 1 rfl) ?_
  refine va_get (D := (dC, dI)) (ci := 1) (v := .int trb) (C := RX1) (T := TX1) (N := 8) hx hb hts hinX1 hown hK hP 0 rfl rfl 1 (by decide) (hts (.fieldLink RX1 32 "FormDesk$Reduction" "b" "I") (by decide +kernel)) (fun _ h9 => h9) rfl dX1_shift_43 ?_
  refine lv_iconst (v := 2) hx hb dX1_shift_46 (by decide) ?_
  refine lv_aload_n hx hb dX1_shift_47 rfl (lv_at hl 1 rfl) ?_
  refine va_get (D := (dC, dI)) (ci := 1) (v := .int tra) (C := RX1) (T := TX1) (N := 8) hx hb hts hinX1 hown hK hP 0 rfl rfl 0 (by decide) (hts (.fieldLink RX1 15 "FormDesk$Reduction" "a" "I") (by decide +kernel)) (fun _ h9 => h9) rfl dX1_shift_48 ?_
  refine lv_imul hx hb dX1_shift_51 ?_
  refine lv_iload_n hx hb dX1_shift_52 rfl (lv_at hl 0 rfl) ?_
  refine lv_imul hx hb dX1_shift_53 ?_
  refine lv_iadd hx hb dX1_shift_54 ?_
  refine lv_topi (fun x4 ex4 => ?_)
  have h := dm_lu ex4 h
  refine va_put (D := (dC, dI)) (ci := 1) (v := .int x4) (ty := .int) (C := RX1) (T := TX1) (N := 8) hx hb hts hinX1 tyX1 tyX1_ok nmX1 hown hK hP hD hS 0 rfl rfl 1 (by decide) (hts (.fieldLink RX1 32 "FormDesk$Reduction" "b" "I") (by decide +kernel)) (fun _ h9 => h9) rfl (by decide +kernel) rfl rfl (Nat.le_of_ble_eq_true rfl) dX1_shift_55 (fun H locs hP hD hS => ?_)
  have hP : va_P (dC, dI) vwCl [(th, .inr (1, [.int tra, .int x4, .int x3, .int trp, .int trq, .int trr, .int trs, .int trd]))] H := hP
  have hD : va_D A [(th, .inr (1, [.int tra, .int x4, .int x3, .int trp, .int trq, .int trr, .int trs, .int trd]))] := hD
  refine lv_aload_n hx hb dX1_shift_58 rfl (lv_at hl 1 rfl) ?_
  refine lv_aload_n hx hb dX1_shift_59 rfl (lv_at hl 1 rfl) ?_
  refine va_get (D := (dC, dI)) (ci := 1) (v := .int trp) (C := RX1) (T := TX1) (N := 8) hx hb hts hinX1 hown hK hP 0 rfl rfl 3 (by decide) (hts (.fieldLink RX1 38 "FormDesk$Reduction" "p" "I") (by decide +kernel)) (fun _ h9 => h9) rfl dX1_shift_60 ?_
  refine lv_iload_n hx hb dX1_shift_63 rfl (lv_at hl 0 rfl) ?_
  refine lv_imul hx hb dX1_shift_64 ?_
  refine lv_aload_n hx hb dX1_shift_65 rfl (lv_at hl 1 rfl) ?_
  refine va_get (D := (dC, dI)) (ci := 1) (v := .int trq) (C := RX1) (T := TX1) (N := 8) hx hb hts hinX1 hown hK hP 0 rfl rfl 4 (by decide) (hts (.fieldLink RX1 41 "FormDesk$Reduction" "q" "I") (by decide +kernel)) (fun _ h9 => h9) rfl dX1_shift_66 ?_
  refine lv_iadd hx hb dX1_shift_69 ?_
  refine lv_topi (fun x5 ex5 => ?_)
  have h := dm_lu ex5 h
  refine va_put (D := (dC, dI)) (ci := 1) (v := .int x5) (ty := .int) (C := RX1) (T := TX1) (N := 8) hx hb hts hinX1 tyX1 tyX1_ok nmX1 hown hK hP hD hS 0 rfl rfl 4 (by decide) (hts (.fieldLink RX1 41 "FormDesk$Reduction" "q" "I") (by decide +kernel)) (fun _ h9 => h9) rfl (by decide +kernel) rfl rfl (Nat.le_of_ble_eq_true rfl) dX1_shift_70 (fun H locs hP hD hS => ?_)
  have hP : va_P (dC, dI) vwCl [(th, .inr (1, [.int tra, .int x4, .int x3, .int trp, .int x5, .int trr, .int trs, .int trd]))] H := hP
  have hD : va_D A [(th, .inr (1, [.int tra, .int x4, .int x3, .int trp, .int x5, .int trr, .int trs, .int trd]))] := hD
  refine lv_aload_n hx hb dX1_shift_73 rfl (lv_at hl 1 rfl) ?_
  refine lv_aload_n hx hb dX1_shift_74 rfl (lv_at hl 1 rfl) ?_
  refine va_get (D := (dC, dI)) (ci := 1) (v := .int trr) (C := RX1) (T := TX1) (N := 8) hx hb hts hinX1 hown hK hP 0 rfl rfl 5 (by decide) (hts (.fieldLink RX1 44 "FormDesk$Reduction" "\x72" "I") (by decide +kernel)) (fun _ h9 => h9) rfl dX1_shift_75 ?_
  refine lv_iload_n hx hb dX1_shift_78 rfl (lv_at hl 0 rfl) ?_
  refine lv_imul hx hb dX1_shift_79 ?_
  refine lv_aload_n hx hb dX1_shift_80 rfl (lv_at hl 1 rfl) ?_
  refine va_get (D := (dC, dI)) (ci := 1) (v := .int trs) (C := RX1) (T := TX1) (N := 8) hx hb hts hinX1 hown hK hP 0 rfl rfl 6 (by decide) (hts (.fieldLink RX1 47 "FormDesk$Reduction" "s" "I") (by decide +kernel)) (fun _ h9 => h9) rfl dX1_shift_81 ?_
  refine lv_iadd hx hb dX1_shift_84 ?_
  refine lv_topi (fun x6 ex6 => ?_)
  have h := dm_lu ex6 h
  refine va_put (D := (dC, dI)) (ci := 1) (v := .int x6) (ty := .int) (C := RX1) (T := TX1) (N := 8) hx hb hts hinX1 tyX1 tyX1_ok nmX1 hown hK hP hD hS 0 rfl rfl 6 (by decide) (hts (.fieldLink RX1 47 "FormDesk$Reduction" "s" "I") (by decide +kernel)) (fun _ h9 => h9) rfl (by decide +kernel) rfl rfl (Nat.le_of_ble_eq_true rfl) dX1_shift_85 (fun H locs hP hD hS => ?_)
  have hP : va_P (dC, dI) vwCl [(th, .inr (1, [.int tra, .int x4, .int x3, .int trp, .int x5, .int trr, .int x6, .int trd]))] H := hP
  have hD : va_D A [(th, .inr (1, [.int tra, .int x4, .int x3, .int trp, .int x5, .int trr, .int x6, .int trd]))] := hD
  obtain ⟨hE0, hE1, hE2, hE3⟩ := dm_i4 h
  subst hE0; subst hE1; subst hE2; subst hE3
  rw [hQQ]
  have hP9 := hP.sub (ws' := [(th, .inr (1, [.int tra, .int x4, .int x3, .int trp, .int x5, .int trr, .int x6, .int trd]))]) [0] rfl
  have hD9 := hD.sub (ws' := [(th, .inr (1, [.int tra, .int x4, .int x3, .int trp, .int x5, .int trr, .int x6, .int trd]))]) [0] (by decide) rfl
  exact W.vret hx hb hr (fun t ht hW => ⟨⟨(), rfl, trivial, by rw [ht]; exact hP9, hD9⟩, hS.F ht⟩) hS.2.2 dX1_shift_88

def f_X1_turn (tra : Int32) (trb : Int32) (trc : Int32) (trp : Int32) (trq : Int32) (trr : Int32) (trs : Int32) : Option (Int32 × Int32 × Int32 × Int32 × Int32 × Int32 × Int32) :=
  dm_let (-trb) fun x1 =>
  dm_let (-trp) fun x2 =>
  dm_let (-trr) fun x3 =>
  some (trc, x1, tra, trq, x2, trs, x3)
set_option maxHeartbeats 4000000 in
set_option maxRecDepth 100000 in
theorem c_X1_turn (l : Launch) (dC : Nat → ClassId) (dI : Nat → Nat → Nat) (cyI cyJ cyC : ClassId) (th : Nat) (sz : Nat) (tra : Int32) (trb : Int32) (trc : Int32) (trp : Int32) (trq : Int32) (trr : Int32) (trs : Int32) (trd : Int32)  (tra' : Int32) (trb' : Int32) (trc' : Int32) (trp' : Int32) (trq' : Int32) (trr' : Int32) (trs' : Int32) (hf : f_X1_turn tra trb trc trp trq trr trs = some (tra', trb', trc', trp', trq', trr', trs')) : Met l yX1_turn wsX1_turn { frames := 0, cells := 0, slots := 0, locals := 0 } (va_Pc [.ref th] (mc_Pre (dC, dI) (mc_tys cyI cyJ cyC) [(th, .inr (1, [.int tra, .int trb, .int trc, .int trp, .int trq, .int trr, .int trs, .int trd]))] sz)) (va_Qv (fun _ : Unit => True) (fun _ t => mc_Post (dC, dI) (va_A [(th, .inr (1, [.int tra, .int trb, .int trc, .int trp, .int trq, .int trr, .int trs, .int trd]))] sz) [(th, .inr (1, [.int tra', .int trb', .int trc', .int trp', .int trq', .int trr', .int trs', .int trd]))] t) (va_A [(th, .inr (1, [.int tra, .int trb, .int trc, .int trp, .int trq, .int trr, .int trs, .int trd]))] sz)) 0 0 (va_A [(th, .inr (1, [.int tra, .int trb, .int trc, .int trp, .int trq, .int trr, .int trs, .int trd]))] sz) := by
  refine Met.ofW (cc := cX1_turn) (maxL := 4) (ret := none) (by decide +kernel) rfl ?_
  intro p e s m args below meth c s₁ B hml hv
  obtain ⟨rfl, hsz, hP, hK, hD0, hnw⟩ := hv
  have hx := B.exec
  have hb := B.bytes
  have hr := B.returns
  have hts := atoms_spec (ws := wsX1_turn) B.pre
  have hown : s.vm.findClass RX1 = some m.cls := findClass_of_methodNamed B.named
  have hlocks := B.notSynchronized
  have hinX1 : ∀ w ∈ wsX10, w ∈ wsX1_turn := by decide +kernel
  subst hsz
  have hD := hD0.self (sz := s.heap.size)
  generalize hAe : va_A [(th, .inr (1, [.int tra, .int trb, .int trc, .int trp, .int trq, .int trr, .int trs, .int trd]))] s.heap.size = A at hD ⊢
  have hA : ∀ q : Nat, s.heap.size ≤ q → A q := fun q h => by rw [← hAe]; exact Or.inr h
  have hS : va_S A s.heap s.heap [] := va_S.rf
  have hP : va_P (dC, dI) vwCl [(th, .inr (1, [.int tra, .int trb, .int trc, .int trp, .int trq, .int trr, .int trs, .int trd]))] s.heap := hP
  have hl := lv_entry ([.ref th]) (n := 4) (Nat.le_of_ble_eq_true rfl)
  rw [lg_entry_eq]
  generalize (lg_sl ([.ref th]) ++ List.replicate (4 - (lg_sl ([.ref th])).length) Slot.unset).toArray = ls at hl ⊢
  have hl : lv_has ls 4 [(0, .ref th)] := hl
  obtain ⟨QQ, hQQ⟩ : ∃ Q, Q = MQ below (va_Qv (fun _ : Unit => True) (fun _ t => mc_Post (dC, dI) A [(th, .inr (1, [.int tra', .int trb', .int trc', .int trp', .int trq', .int trr', .int trs', .int trd]))] t) A) ([Value.ref th] : List Value).toArray s 0 0 A := ⟨_, rfl⟩
  rw [← hQQ]
  have h := hf
  unfold f_X1_turn at h
  refine lv_aload_n hx hb dX1_turn_0 rfl (lv_at hl 0 rfl) ?_
  refine va_get (D := (dC, dI)) (ci := 1) (v := .int tra) (C := RX1) (T := TX1) (N := 8) hx hb hts hinX1 hown hK hP 0 rfl rfl 0 (by decide) (hts (.fieldLink RX1 15 "FormDesk$Reduction" "a" "I") (by decide +kernel)) (fun _ h9 => h9) rfl dX1_turn_1 ?_
  refine lv_istore_n (lv' := [(1, .int tra), (0, .ref th)]) hx hb dX1_turn_4 rfl hl (by decide) rfl (fun ls hl => ?_)
  refine lv_aload_n hx hb dX1_turn_5 rfl (lv_at hl 1 rfl) ?_
  refine lv_aload_n hx hb dX1_turn_6 rfl (lv_at hl 1 rfl) ?_
  refine va_get (D := (dC, dI)) (ci := 1) (v := .int trc) (C := RX1) (T := TX1) (N := 8) hx hb hts hinX1 hown hK hP 0 rfl rfl 2 (by decide) (hts (.fieldLink RX1 35 "FormDesk$Reduction" "c" "I") (by decide +kernel)) (fun _ h9 => h9) rfl dX1_turn_7 ?_
  refine va_put (D := (dC, dI)) (ci := 1) (v := .int trc) (ty := .int) (C := RX1) (T := TX1) (N := 8) hx hb hts hinX1 tyX1 tyX1_ok nmX1 hown hK hP hD hS 0 rfl rfl 0 (by decide) (hts (.fieldLink RX1 15 "FormDesk$Reduction" "a" "I") (by decide +kernel)) (fun _ h9 => h9) rfl (by decide +kernel) rfl rfl (Nat.le_of_ble_eq_true rfl) dX1_turn_10 (fun H locs hP hD hS => ?_)
  have hP : va_P (dC, dI) vwCl [(th, .inr (1, [.int trc, .int trb, .int trc, .int trp, .int trq, .int trr, .int trs, .int trd]))] H := hP
  have hD : va_D A [(th, .inr (1, [.int trc, .int trb, .int trc, .int trp, .int trq, .int trr, .int trs, .int trd]))] := hD
  refine lv_aload_n hx hb dX1_turn_13 rfl (lv_at hl 1 rfl) ?_
  refine lv_aload_n hx hb dX1_turn_14 rfl (lv_at hl 1 rfl) ?_
  refine va_get (D := (dC, dI)) (ci := 1) (v := .int trb) (C := RX1) (T := TX1) (N := 8) hx hb hts hinX1 hown hK hP 0 rfl rfl 1 (by decide) (hts (.fieldLink RX1 32 "FormDesk$Reduction" "b" "I") (by decide +kernel)) (fun _ h9 => h9) rfl dX1_turn_15 ?_
  refine lv_ineg hx hb dX1_turn_18 ?_
  refine lv_topi (fun x1 ex1 => ?_)
  have h := dm_lu ex1 h
  refine va_put (D := (dC, dI)) (ci := 1) (v := .int x1) (ty := .int) (C := RX1) (T := TX1) (N := 8) hx hb hts hinX1 tyX1 tyX1_ok nmX1 hown hK hP hD hS 0 rfl rfl 1 (by decide) (hts (.fieldLink RX1 32 "FormDesk$Reduction" "b" "I") (by decide +kernel)) (fun _ h9 => h9) rfl (by decide +kernel) rfl rfl (Nat.le_of_ble_eq_true rfl) dX1_turn_19 (fun H locs hP hD hS => ?_)
  have hP : va_P (dC, dI) vwCl [(th, .inr (1, [.int trc, .int x1, .int trc, .int trp, .int trq, .int trr, .int trs, .int trd]))] H := hP
  have hD : va_D A [(th, .inr (1, [.int trc, .int x1, .int trc, .int trp, .int trq, .int trr, .int trs, .int trd]))] := hD
  refine lv_aload_n hx hb dX1_turn_22 rfl (lv_at hl 1 rfl) ?_
  refine lv_iload_n hx hb dX1_turn_23 rfl (lv_at hl 0 rfl) ?_
  refine va_put (D := (dC, dI)) (ci := 1) (v := .int tra) (ty := .int) (C := RX1) (T := TX1) (N := 8) hx hb hts hinX1 tyX1 tyX1_ok nmX1 hown hK hP hD hS 0 rfl rfl 2 (by decide) (hts (.fieldLink RX1 35 "FormDesk$Reduction" "c" "I") (by decide +kernel)) (fun _ h9 => h9) rfl (by decide +kernel) rfl rfl (Nat.le_of_ble_eq_true rfl) dX1_turn_24 (fun H locs hP hD hS => ?_)
  have hP : va_P (dC, dI) vwCl [(th, .inr (1, [.int trc, .int x1, .int tra, .int trp, .int trq, .int trr, .int trs, .int trd]))] H := hP
  have hD : va_D A [(th, .inr (1, [.int trc, .int x1, .int tra, .int trp, .int trq, .int trr, .int trs, .int trd]))] := hD
  refine lv_aload_n hx hb dX1_turn_27 rfl (lv_at hl 1 rfl) ?_
  refine va_get (D := (dC, dI)) (ci := 1) (v := .int trp) (C := RX1) (T := TX1) (N := 8) hx hb hts hinX1 hown hK hP 0 rfl rfl 3 (by decide) (hts (.fieldLink RX1 38 "FormDesk$Reduction" "p" "I") (by decide +kernel)) (fun _ h9 => h9) rfl dX1_turn_28 ?_
  refine lv_istore_n (lv' := [(2, .int trp), (1, .int tra), (0, .ref th)]) hx hb dX1_turn_31 rfl hl (by decide) rfl (fun ls hl => ?_)
  refine lv_aload_n hx hb dX1_turn_32 rfl (lv_at hl 2 rfl) ?_
  refine lv_aload_n hx hb dX1_turn_33 rfl (lv_at hl 2 rfl) ?_
  refine va_get (D := (dC, dI)) (ci := 1) (v := .int trq) (C := RX1) (T := TX1) (N := 8) hx hb hts hinX1 hown hK hP 0 rfl rfl 4 (by decide) (hts (.fieldLink RX1 41 "FormDesk$Reduction" "q" "I") (by decide +kernel)) (fun _ h9 => h9) rfl dX1_turn_34 ?_
  refine va_put (D := (dC, dI)) (ci := 1) (v := .int trq) (ty := .int) (C := RX1) (T := TX1) (N := 8) hx hb hts hinX1 tyX1 tyX1_ok nmX1 hown hK hP hD hS 0 rfl rfl 3 (by decide) (hts (.fieldLink RX1 38 "FormDesk$Reduction" "p" "I") (by decide +kernel)) (fun _ h9 => h9) rfl (by decide +kernel) rfl rfl (Nat.le_of_ble_eq_true rfl) dX1_turn_37 (fun H locs hP hD hS => ?_)
  have hP : va_P (dC, dI) vwCl [(th, .inr (1, [.int trc, .int x1, .int tra, .int trq, .int trq, .int trr, .int trs, .int trd]))] H := hP
  have hD : va_D A [(th, .inr (1, [.int trc, .int x1, .int tra, .int trq, .int trq, .int trr, .int trs, .int trd]))] := hD
  refine lv_aload_n hx hb dX1_turn_40 rfl (lv_at hl 2 rfl) ?_
  refine lv_iload_n hx hb dX1_turn_41 rfl (lv_at hl 0 rfl) ?_
  refine lv_ineg hx hb dX1_turn_42 ?_
  refine lv_topi (fun x2 ex2 => ?_)
  have h := dm_lu ex2 h
  refine va_put (D := (dC, dI)) (ci := 1) (v := .int x2) (ty := .int) (C := RX1) (T := TX1) (N := 8) hx hb hts hinX1 tyX1 tyX1_ok nmX1 hown hK hP hD hS 0 rfl rfl 4 (by decide) (hts (.fieldLink RX1 41 "FormDesk$Reduction" "q" "I") (by decide +kernel)) (fun _ h9 => h9) rfl (by decide +kernel) rfl rfl (Nat.le_of_ble_eq_true rfl) dX1_turn_43 (fun H locs hP hD hS => ?_)
  have hP : va_P (dC, dI) vwCl [(th, .inr (1, [.int trc, .int x1, .int tra, .int trq, .int x2, .int trr, .int trs, .int trd]))] H := hP
  have hD : va_D A [(th, .inr (1, [.int trc, .int x1, .int tra, .int trq, .int x2, .int trr, .int trs, .int trd]))] := hD
  refine lv_aload_n hx hb dX1_turn_46 rfl (lv_at hl 2 rfl) ?_
  refine va_get (D := (dC, dI)) (ci := 1) (v := .int trr) (C := RX1) (T := TX1) (N := 8) hx hb hts hinX1 hown hK hP 0 rfl rfl 5 (by decide) (hts (.fieldLink RX1 44 "FormDesk$Reduction" "\x72" "I") (by decide +kernel)) (fun _ h9 => h9) rfl dX1_turn_47 ?_
  refine lv_istore_n (lv' := [(3, .int trr), (2, .int trp), (1, .int tra), (0, .ref th)]) hx hb dX1_turn_50 rfl hl (by decide) rfl (fun ls hl => ?_)
  refine lv_aload_n hx hb dX1_turn_51 rfl (lv_at hl 3 rfl) ?_
  refine lv_aload_n hx hb dX1_turn_52 rfl (lv_at hl 3 rfl) ?_
  refine va_get (D := (dC, dI)) (ci := 1) (v := .int trs) (C := RX1) (T := TX1) (N := 8) hx hb hts hinX1 hown hK hP 0 rfl rfl 6 (by decide) (hts (.fieldLink RX1 47 "FormDesk$Reduction" "s" "I") (by decide +kernel)) (fun _ h9 => h9) rfl dX1_turn_53 ?_
  refine va_put (D := (dC, dI)) (ci := 1) (v := .int trs) (ty := .int) (C := RX1) (T := TX1) (N := 8) hx hb hts hinX1 tyX1 tyX1_ok nmX1 hown hK hP hD hS 0 rfl rfl 5 (by decide) (hts (.fieldLink RX1 44 "FormDesk$Reduction" "\x72" "I") (by decide +kernel)) (fun _ h9 => h9) rfl (by decide +kernel) rfl rfl (Nat.le_of_ble_eq_true rfl) dX1_turn_56 (fun H locs hP hD hS => ?_)
  have hP : va_P (dC, dI) vwCl [(th, .inr (1, [.int trc, .int x1, .int tra, .int trq, .int x2, .int trs, .int trs, .int trd]))] H := hP
  have hD : va_D A [(th, .inr (1, [.int trc, .int x1, .int tra, .int trq, .int x2, .int trs, .int trs, .int trd]))] := hD
  refine lv_aload_n hx hb dX1_turn_59 rfl (lv_at hl 3 rfl) ?_
  refine lv_iload_n hx hb dX1_turn_60 rfl (lv_at hl 0 rfl) ?_
  refine lv_ineg hx hb dX1_turn_61 ?_
  refine lv_topi (fun x3 ex3 => ?_)
  have h := dm_lu ex3 h
  refine va_put (D := (dC, dI)) (ci := 1) (v := .int x3) (ty := .int) (C := RX1) (T := TX1) (N := 8) hx hb hts hinX1 tyX1 tyX1_ok nmX1 hown hK hP hD hS 0 rfl rfl 6 (by decide) (hts (.fieldLink RX1 47 "FormDesk$Reduction" "s" "I") (by decide +kernel)) (fun _ h9 => h9) rfl (by decide +kernel) rfl rfl (Nat.le_of_ble_eq_true rfl) dX1_turn_62 (fun H locs hP hD hS => ?_)
  have hP : va_P (dC, dI) vwCl [(th, .inr (1, [.int trc, .int x1, .int tra, .int trq, .int x2, .int trs, .int x3, .int trd]))] H := hP
  have hD : va_D A [(th, .inr (1, [.int trc, .int x1, .int tra, .int trq, .int x2, .int trs, .int x3, .int trd]))] := hD
  obtain ⟨hE0, hE1, hE2, hE3, hE4, hE5, hE6⟩ := dm_i7 h
  subst hE0; subst hE1; subst hE2; subst hE3; subst hE4; subst hE5; subst hE6
  rw [hQQ]
  have hP9 := hP.sub (ws' := [(th, .inr (1, [.int trc, .int x1, .int tra, .int trq, .int x2, .int trs, .int x3, .int trd]))]) [0] rfl
  have hD9 := hD.sub (ws' := [(th, .inr (1, [.int trc, .int x1, .int tra, .int trq, .int x2, .int trs, .int x3, .int trd]))]) [0] (by decide) rfl
  exact W.vret hx hb hr (fun t ht hW => ⟨⟨(), rfl, trivial, by rw [ht]; exact hP9, hD9⟩, hS.F ht⟩) hS.2.2 dX1_turn_65

def f_X1_run_L10 (w8 : Int32)  : Nat → Int32 → Int32 → Int32 → Int32 → Int32 → Int32 → Int32 → Int32 → Option (Int32 × Int32 × Int32 × Int32 × Int32 × Int32 × Int32 × Int32 × Int32)
  | 0, _, _, _, _, _, _, _, _ => none
  | n + 1, v10, v11, v12, v13, v14, v15, v16, v17 =>
    if (1000 : Int32) ≤ v10 then
      some (v10, v11, v12, v13, v14, v15, v16, v17, w8)
    else
      if v11 ≤ 0 then
        some (v10, v11, v12, v13, v14, v15, v16, v17, w8)
      else
        dm_b1 (f_X1_isReduced v11 v12 v13) fun r20 =>
        if r20 = 0 then
          dm_b1 (f_X1_needsShift v11 v12) fun r23 =>
          if r23 = 0 then
            dm_b7 (f_X1_turn v11 v12 v13 v14 v15 v16 v17) fun w26 w27 w28 w29 w30 w31 w32 =>
            dm_let (v10 + (1 : Int32)) fun x34 =>
            f_X1_run_L10 w8 n x34 w26 w27 w28 w29 w30 w31 w32
          else
            dm_b4 (f_X1_shift v11 v12 v13 v14 v15 v16 v17) fun w35 w36 w37 w38 =>
            dm_let (v10 + (1 : Int32)) fun x40 =>
            f_X1_run_L10 w8 n x40 v11 w35 w36 v14 w37 v16 w38
        else
          some (v10, v11, v12, v13, v14, v15, v16, v17, w8)
def f_X1_run (p0 : Int32) (p1 : Int32) (p2 : Int32) : Option (Int32 × Int32 × Int32 × Int32 × Int32 × Int32 × Int32 × Int32 × Int32) :=
  dm_b8 (f_X1_start p0 p1 p2) fun w1 w2 w3 w4 w5 w6 w7 w8 =>
  f_X1_run_L10 w8 100000 (0 : Int32) w1 w2 w3 w4 w5 w6 w7
set_option maxHeartbeats 4000000 in
set_option maxRecDepth 100000 in
theorem c_X1_run (l : Launch) (dC : Nat → ClassId) (dI : Nat → Nat → Nat) (cyI cyJ cyC : ClassId) (th : Nat) (sz : Nat) (tra : Int32) (trb : Int32) (trc : Int32) (trp : Int32) (trq : Int32) (trr : Int32) (trs : Int32) (trd : Int32) (p0 : Int32) (p1 : Int32) (p2 : Int32) (rv : Int32) (tra' : Int32) (trb' : Int32) (trc' : Int32) (trp' : Int32) (trq' : Int32) (trr' : Int32) (trs' : Int32) (trd' : Int32) (hf : f_X1_run p0 p1 p2 = some (rv, tra', trb', trc', trp', trq', trr', trs', trd')) : Met l yX1_run wsX1_run { frames := 2, cells := 0, slots := 0, locals := 43 } (va_Pc [.ref th, .int p0, .int p1, .int p2] (mc_Pre (dC, dI) (mc_tys cyI cyJ cyC) [(th, .inr (1, [.int tra, .int trb, .int trc, .int trp, .int trq, .int trr, .int trs, .int trd]))] sz)) (va_Qi (fun r (_ : Unit) => r = rv) (fun _ t => mc_Post (dC, dI) (va_A [(th, .inr (1, [.int tra, .int trb, .int trc, .int trp, .int trq, .int trr, .int trs, .int trd]))] sz) [(th, .inr (1, [.int tra', .int trb', .int trc', .int trp', .int trq', .int trr', .int trs', .int trd']))] t) (va_A [(th, .inr (1, [.int tra, .int trb, .int trc, .int trp, .int trq, .int trr, .int trs, .int trd]))] sz)) 0 0 (va_A [(th, .inr (1, [.int tra, .int trb, .int trc, .int trp, .int trq, .int trr, .int trs, .int trd]))] sz) := by
  refine Met.ofW (cc := cX1_run) (maxL := 5) (ret := (some .int)) (by decide +kernel) rfl ?_
  intro p e s m args below meth c s₁ B hml hv
  obtain ⟨rfl, hsz, hP, hK, hD0, hnw⟩ := hv
  have hx := B.exec
  have hb := B.bytes
  have hr := B.returns
  have hts := atoms_spec (ws := wsX1_run) B.pre
  have hown : s.vm.findClass RX1 = some m.cls := findClass_of_methodNamed B.named
  have hlocks := B.notSynchronized
  have hinX1 : ∀ w ∈ wsX10, w ∈ wsX1_run := by decide +kernel
  subst hsz
  have hD := hD0.self (sz := s.heap.size)
  generalize hAe : va_A [(th, .inr (1, [.int tra, .int trb, .int trc, .int trp, .int trq, .int trr, .int trs, .int trd]))] s.heap.size = A at hD ⊢
  have hA : ∀ q : Nat, s.heap.size ≤ q → A q := fun q h => by rw [← hAe]; exact Or.inr h
  have hS : va_S A s.heap s.heap [] := va_S.rf
  have hP : va_P (dC, dI) vwCl [(th, .inr (1, [.int tra, .int trb, .int trc, .int trp, .int trq, .int trr, .int trs, .int trd]))] s.heap := hP
  have hl := lv_entry ([.ref th, .int p0, .int p1, .int p2]) (n := 5) (Nat.le_of_ble_eq_true rfl)
  rw [lg_entry_eq]
  generalize (lg_sl ([.ref th, .int p0, .int p1, .int p2]) ++ List.replicate (5 - (lg_sl ([.ref th, .int p0, .int p1, .int p2])).length) Slot.unset).toArray = ls at hl ⊢
  have hl : lv_has ls 5 [(0, .ref th), (1, .int p0), (2, .int p1), (3, .int p2)] := hl
  obtain ⟨QQ, hQQ⟩ : ∃ Q, Q = MQ below (va_Qi (fun r (_ : Unit) => r = rv) (fun _ t => mc_Post (dC, dI) A [(th, .inr (1, [.int tra', .int trb', .int trc', .int trp', .int trq', .int trr', .int trs', .int trd']))] t) A) ([Value.ref th, Value.int p0, Value.int p1, Value.int p2] : List Value).toArray s 0 0 A := ⟨_, rfl⟩
  rw [← hQQ]
  have h := hf
  unfold f_X1_run at h
  refine lv_aload_n hx hb dX1_run_0 rfl (lv_at hl 0 rfl) ?_
  refine lv_iload_n hx hb dX1_run_1 rfl (lv_at hl 1 rfl) ?_
  refine lv_iload_n hx hb dX1_run_2 rfl (lv_at hl 2 rfl) ?_
  refine lv_iload_n hx hb dX1_run_3 rfl (lv_at hl 3 rfl) ?_
  obtain ⟨w1, w2, w3, w4, w5, w6, w7, w8, hk9, h⟩ := dm_b8s h
  refine mc_v (wr := []) (va_runV (As := [.int p0, .int p1, .int p2]) (rest := []) ⟨hx, hb, hml, hown, hts⟩ (c_X1_start l dC dI cyI cyJ cyC th s.heap.size tra trb trc trp trq trr trs trd p0 p1 p2 w1 w2 w3 w4 w5 w6 w7 w8 hk9) (cwV 3 hts gX1_run_X1_start rfl rfl rfl (by decide +kernel) ⟨(Nat.le_of_ble_eq_true rfl), (Nat.le_of_ble_eq_true rfl)⟩) (mc_preV hK (hP.sub (ws' := [(th, .inr (1, [.int tra, .int trb, .int trc, .int trp, .int trq, .int trr, .int trs, .int trd]))]) [0] rfl) (hD.sub (ws' := [(th, .inr (1, [.int tra, .int trb, .int trc, .int trp, .int trq, .int trr, .int trs, .int trd]))]) [0] (by decide) rfl) hnw rfl rfl) rfl rfl hl.1 rfl (lv_room (Nat.le_of_ble_eq_true rfl)) dX1_run_4 ⟨Nat.zero_le _, Nat.zero_le _⟩) hP hD hS hA [0] [] rfl rfl rfl (by decide) (fun H locs hP hD hS => ?_)
  have hP : va_P (dC, dI) vwCl [(th, .inr (1, [.int w1, .int w2, .int w3, .int w4, .int w5, .int w6, .int w7, .int w8]))] H := hP
  have hD : va_D A [(th, .inr (1, [.int w1, .int w2, .int w3, .int w4, .int w5, .int w6, .int w7, .int w8]))] := hD
  refine lv_iconst (v := 0) hx hb dX1_run_7 (by decide) ?_
  refine lv_istore (lv' := [(4, .int (0 : Int32)), (0, .ref th), (1, .int p0), (2, .int p1), (3, .int p2)]) hx hb dX1_run_8 hl (by decide) rfl (fun ls hl => ?_)
  have L10 : ∀ (n10 : Nat) (v10 : Int32) (v11 : Int32) (v12 : Int32) (v13 : Int32) (v14 : Int32) (v15 : Int32) (v16 : Int32) (v17 : Int32) (H : Heap) (locs : List Loc) (ls : Array Slot), f_X1_run_L10 w8 n10 v10 v11 v12 v13 v14 v15 v16 v17 = some (rv, tra', trb', trc', trp', trq', trr', trs', trd') → va_P (dC, dI) vwCl [(th, .inr (1, [.int v11, .int v12, .int v13, .int v14, .int v15, .int v16, .int v17, .int w8]))] H → va_D A [(th, .inr (1, [.int v11, .int v12, .int v13, .int v14, .int v15, .int v16, .int v17, .int w8]))] → va_S A s.heap H locs → lv_has ls 5 [(4, .int v10), (0, .ref th), (1, .int p0), (2, .int p1), (3, .int p2)] → W p l e (headSpec wsX1_run { frames := 2, cells := 0, slots := 0, locals := 43 }).room s m ([Value.ref th, Value.int p0, Value.int p1, Value.int p2] : List Value).toArray below meth c H locs 0 0 QQ (F0 m 10 ls []) := by
    intro n10
    induction n10 with
    | zero =>
      intro v10 v11 v12 v13 v14 v15 v16 v17 H locs ls h
      exact nomatch (show (none : Option (Int32 × Int32 × Int32 × Int32 × Int32 × Int32 × Int32 × Int32 × Int32)) = some _ from h)
    | succ n10 ih10 =>
      intro v10 v11 v12 v13 v14 v15 v16 v17 H locs ls h hP hD hS hl
      rw [f_X1_run_L10] at h
      refine lv_iload hx hb dX1_run_10 (lv_at hl 0 rfl) ?_
      refine lv_sipush (v := 1000) hx hb dX1_run_12 (by decide) ?_
      refine lv_icmp_ge (tgt := 56) hx hb dX1_run_15 (by decide) (fun hc18 => ?_) (fun hc18 => ?_)
      · have h := dm_t hc18 h
        refine lv_iload hx hb dX1_run_56 (lv_at hl 0 rfl) ?_
        obtain ⟨hE0, hE1, hE2, hE3, hE4, hE5, hE6, hE7, hE8⟩ := dm_i9 h
        subst hE0; subst hE1; subst hE2; subst hE3; subst hE4; subst hE5; subst hE6; subst hE7; subst hE8
        rw [hQQ]
        have hP9 := hP.sub (ws' := [(th, .inr (1, [.int v11, .int v12, .int v13, .int v14, .int v15, .int v16, .int v17, .int w8]))]) [0] rfl
        have hD9 := hD.sub (ws' := [(th, .inr (1, [.int v11, .int v12, .int v13, .int v14, .int v15, .int v16, .int v17, .int w8]))]) [0] (by decide) rfl
        exact W.iret (v := v10) hx hb hr (fun t ht hW => ⟨⟨v10, (), rfl, rfl, by rw [ht]; exact hP9, hD9⟩, hS.F ht⟩) hS.2.2 dX1_run_58
      · have h := dm_f hc18 h
        refine lv_aload_n hx hb dX1_run_18 rfl (lv_at hl 1 rfl) ?_
        refine va_get (D := (dC, dI)) (ci := 1) (v := .int v11) (C := RX1) (T := TX1) (N := 8) hx hb hts hinX1 hown hK hP 0 rfl rfl 0 (by decide) (hts (.fieldLink RX1 15 "FormDesk$Reduction" "a" "I") (by decide +kernel)) (fun _ h9 => h9) rfl dX1_run_19 ?_
        refine lv_if_le (tgt := 56) hx hb dX1_run_22 (by decide) (fun hc19 => ?_) (fun hc19 => ?_)
        · have h := dm_t hc19 h
          refine lv_iload hx hb dX1_run_56 (lv_at hl 0 rfl) ?_
          obtain ⟨hE0, hE1, hE2, hE3, hE4, hE5, hE6, hE7, hE8⟩ := dm_i9 h
          subst hE0; subst hE1; subst hE2; subst hE3; subst hE4; subst hE5; subst hE6; subst hE7; subst hE8
          rw [hQQ]
          have hP9 := hP.sub (ws' := [(th, .inr (1, [.int v11, .int v12, .int v13, .int v14, .int v15, .int v16, .int v17, .int w8]))]) [0] rfl
          have hD9 := hD.sub (ws' := [(th, .inr (1, [.int v11, .int v12, .int v13, .int v14, .int v15, .int v16, .int v17, .int w8]))]) [0] (by decide) rfl
          exact W.iret (v := v10) hx hb hr (fun t ht hW => ⟨⟨v10, (), rfl, rfl, by rw [ht]; exact hP9, hD9⟩, hS.F ht⟩) hS.2.2 dX1_run_58
        · have h := dm_f hc19 h
          refine lv_aload_n hx hb dX1_run_25 rfl (lv_at hl 1 rfl) ?_
          obtain ⟨r20, hk21, h⟩ := dm_b1s h
          refine mc_i (wr := []) (va_runV (As := []) (rest := []) ⟨hx, hb, hml, hown, hts⟩ (c_X1_isReduced l dC dI cyI cyJ cyC th H.size v11 v12 v13 v14 v15 v16 v17 w8 r20 hk21) (cwV 0 hts gX1_run_X1_isReduced rfl rfl rfl (by decide +kernel) ⟨(Nat.le_of_ble_eq_true rfl), (Nat.le_of_ble_eq_true rfl)⟩) (mc_preV hK (hP.sub (ws' := [(th, .inr (1, [.int v11, .int v12, .int v13, .int v14, .int v15, .int v16, .int v17, .int w8]))]) [0] rfl) (hD.sub (ws' := [(th, .inr (1, [.int v11, .int v12, .int v13, .int v14, .int v15, .int v16, .int v17, .int w8]))]) [0] (by decide) rfl) hnw rfl rfl) rfl rfl hl.1 rfl (lv_room (Nat.le_of_ble_eq_true rfl)) dX1_run_26 ⟨Nat.zero_le _, Nat.zero_le _⟩) hP hD hS hA [0] [] rfl rfl rfl (by decide) (fun H locs hP hD hS => ?_)
          have hP : va_P (dC, dI) vwCl [(th, .inr (1, [.int v11, .int v12, .int v13, .int v14, .int v15, .int v16, .int v17, .int w8]))] H := hP
          have hD : va_D A [(th, .inr (1, [.int v11, .int v12, .int v13, .int v14, .int v15, .int v16, .int v17, .int w8]))] := hD
          refine lv_if_ne (tgt := 56) hx hb dX1_run_29 (by decide) (fun hc22 => ?_) (fun hc22 => ?_)
          · have h := dm_f hc22 h
            refine lv_iload hx hb dX1_run_56 (lv_at hl 0 rfl) ?_
            obtain ⟨hE0, hE1, hE2, hE3, hE4, hE5, hE6, hE7, hE8⟩ := dm_i9 h
            subst hE0; subst hE1; subst hE2; subst hE3; subst hE4; subst hE5; subst hE6; subst hE7; subst hE8
            rw [hQQ]
            have hP9 := hP.sub (ws' := [(th, .inr (1, [.int v11, .int v12, .int v13, .int v14, .int v15, .int v16, .int v17, .int w8]))]) [0] rfl
            have hD9 := hD.sub (ws' := [(th, .inr (1, [.int v11, .int v12, .int v13, .int v14, .int v15, .int v16, .int v17, .int w8]))]) [0] (by decide) rfl
            exact W.iret (v := v10) hx hb hr (fun t ht hW => ⟨⟨v10, (), rfl, rfl, by rw [ht]; exact hP9, hD9⟩, hS.F ht⟩) hS.2.2 dX1_run_58
          · have h := dm_t hc22 h
            refine lv_aload_n hx hb dX1_run_32 rfl (lv_at hl 1 rfl) ?_
            obtain ⟨r23, hk24, h⟩ := dm_b1s h
            refine mc_i (wr := []) (va_runV (As := []) (rest := []) ⟨hx, hb, hml, hown, hts⟩ (c_X1_needsShift l dC dI cyI cyJ cyC th H.size v11 v12 v13 v14 v15 v16 v17 w8 r23 hk24) (cwV 0 hts gX1_run_X1_needsShift rfl rfl rfl (by decide +kernel) ⟨(Nat.le_of_ble_eq_true rfl), (Nat.le_of_ble_eq_true rfl)⟩) (mc_preV hK (hP.sub (ws' := [(th, .inr (1, [.int v11, .int v12, .int v13, .int v14, .int v15, .int v16, .int v17, .int w8]))]) [0] rfl) (hD.sub (ws' := [(th, .inr (1, [.int v11, .int v12, .int v13, .int v14, .int v15, .int v16, .int v17, .int w8]))]) [0] (by decide) rfl) hnw rfl rfl) rfl rfl hl.1 rfl (lv_room (Nat.le_of_ble_eq_true rfl)) dX1_run_33 ⟨Nat.zero_le _, Nat.zero_le _⟩) hP hD hS hA [0] [] rfl rfl rfl (by decide) (fun H locs hP hD hS => ?_)
            have hP : va_P (dC, dI) vwCl [(th, .inr (1, [.int v11, .int v12, .int v13, .int v14, .int v15, .int v16, .int v17, .int w8]))] H := hP
            have hD : va_D A [(th, .inr (1, [.int v11, .int v12, .int v13, .int v14, .int v15, .int v16, .int v17, .int w8]))] := hD
            refine lv_if_eq (tgt := 46) hx hb dX1_run_36 (by decide) (fun hc25 => ?_) (fun hc25 => ?_)
            · have h := dm_t hc25 h
              refine lv_aload_n hx hb dX1_run_46 rfl (lv_at hl 1 rfl) ?_
              obtain ⟨w26, w27, w28, w29, w30, w31, w32, hk33, h⟩ := dm_b7s h
              refine mc_v (wr := []) (va_runV (As := []) (rest := []) ⟨hx, hb, hml, hown, hts⟩ (c_X1_turn l dC dI cyI cyJ cyC th H.size v11 v12 v13 v14 v15 v16 v17 w8 w26 w27 w28 w29 w30 w31 w32 hk33) (cwV 0 hts gX1_run_X1_turn rfl rfl rfl (by decide +kernel) ⟨(Nat.le_of_ble_eq_true rfl), (Nat.le_of_ble_eq_true rfl)⟩) (mc_preV hK (hP.sub (ws' := [(th, .inr (1, [.int v11, .int v12, .int v13, .int v14, .int v15, .int v16, .int v17, .int w8]))]) [0] rfl) (hD.sub (ws' := [(th, .inr (1, [.int v11, .int v12, .int v13, .int v14, .int v15, .int v16, .int v17, .int w8]))]) [0] (by decide) rfl) hnw rfl rfl) rfl rfl hl.1 rfl (lv_room (Nat.le_of_ble_eq_true rfl)) dX1_run_47 ⟨Nat.zero_le _, Nat.zero_le _⟩) hP hD hS hA [0] [] rfl rfl rfl (by decide) (fun H locs hP hD hS => ?_)
              have hP : va_P (dC, dI) vwCl [(th, .inr (1, [.int w26, .int w27, .int w28, .int w29, .int w30, .int w31, .int w32, .int w8]))] H := hP
              have hD : va_D A [(th, .inr (1, [.int w26, .int w27, .int w28, .int w29, .int w30, .int w31, .int w32, .int w8]))] := hD
              obtain ⟨x34, ex34⟩ : ∃ y : Int32, y = (v10 + (1 : Int32)) := ⟨_, rfl⟩
              have h := dm_lu ex34 h
              refine lv_iinc (v := x34) (lv' := [(4, .int x34), (0, .ref th), (1, .int p0), (2, .int p1), (3, .int p2)]) hx hb dX1_run_50 hl (k := 0) rfl (by rw [ex34]; rfl) (by decide) rfl (fun ls hl => ?_)
              refine lv_goto (tgt := 10) hx hb dX1_run_53 (by decide) ?_
              exact ih10 x34 w26 w27 w28 w29 w30 w31 w32 H _ ls h (hP.sub [0] rfl) (hD.sub [0] (by decide) rfl) hS (lv_sub hl [0, 1, 2, 3, 4] rfl)
            · have h := dm_f hc25 h
              refine lv_aload_n hx hb dX1_run_39 rfl (lv_at hl 1 rfl) ?_
              obtain ⟨w35, w36, w37, w38, hk39, h⟩ := dm_b4s h
              refine mc_v (wr := []) (va_runV (As := []) (rest := []) ⟨hx, hb, hml, hown, hts⟩ (c_X1_shift l dC dI cyI cyJ cyC th H.size v11 v12 v13 v14 v15 v16 v17 w8 w35 w36 w37 w38 hk39) (cwV 0 hts gX1_run_X1_shift rfl rfl rfl (by decide +kernel) ⟨(Nat.le_of_ble_eq_true rfl), (Nat.le_of_ble_eq_true rfl)⟩) (mc_preV hK (hP.sub (ws' := [(th, .inr (1, [.int v11, .int v12, .int v13, .int v14, .int v15, .int v16, .int v17, .int w8]))]) [0] rfl) (hD.sub (ws' := [(th, .inr (1, [.int v11, .int v12, .int v13, .int v14, .int v15, .int v16, .int v17, .int w8]))]) [0] (by decide) rfl) hnw rfl rfl) rfl rfl hl.1 rfl (lv_room (Nat.le_of_ble_eq_true rfl)) dX1_run_40 ⟨Nat.zero_le _, Nat.zero_le _⟩) hP hD hS hA [0] [] rfl rfl rfl (by decide) (fun H locs hP hD hS => ?_)
              have hP : va_P (dC, dI) vwCl [(th, .inr (1, [.int v11, .int w35, .int w36, .int v14, .int w37, .int v16, .int w38, .int w8]))] H := hP
              have hD : va_D A [(th, .inr (1, [.int v11, .int w35, .int w36, .int v14, .int w37, .int v16, .int w38, .int w8]))] := hD
              refine lv_goto (tgt := 50) hx hb dX1_run_43 (by decide) ?_
              obtain ⟨x40, ex40⟩ : ∃ y : Int32, y = (v10 + (1 : Int32)) := ⟨_, rfl⟩
              have h := dm_lu ex40 h
              refine lv_iinc (v := x40) (lv' := [(4, .int x40), (0, .ref th), (1, .int p0), (2, .int p1), (3, .int p2)]) hx hb dX1_run_50 hl (k := 0) rfl (by rw [ex40]; rfl) (by decide) rfl (fun ls hl => ?_)
              refine lv_goto (tgt := 10) hx hb dX1_run_53 (by decide) ?_
              exact ih10 x40 v11 w35 w36 v14 w37 v16 w38 H _ ls h (hP.sub [0] rfl) (hD.sub [0] (by decide) rfl) hS (lv_sub hl [0, 1, 2, 3, 4] rfl)
  exact L10 100000 (0 : Int32) w1 w2 w3 w4 w5 w6 w7 H _ ls h hP hD hS hl
