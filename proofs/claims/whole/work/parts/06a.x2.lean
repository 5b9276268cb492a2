def f_X2_byteOf (p0 : Int32) (p1 : Int32) : Option (Int32) :=
  some (((p0).toUInt32 >>> ((((8 : Int32) * p1)).toUInt32 &&& Int32.toUInt32 31)).toInt32 &&& (255 : Int32))
set_option maxHeartbeats 4000000 in
set_option maxRecDepth 100000 in
theorem c_X2_byteOf (l : Launch) (dC : Nat → ClassId) (dI : Nat → Nat → Nat) (cyI cyJ cyC : ClassId) (sz : Nat)  (p0 : Int32) (p1 : Int32) (rv : Int32) (hf : f_X2_byteOf p0 p1 = some rv) : Met l yX2_byteOf wsX2_byteOf { frames := 0, cells := 0, slots := 0, locals := 0 } (va_Pc [.int p0, .int p1] (mc_Pre (dC, dI) (mc_tys cyI cyJ cyC) [] sz)) (va_Qi (fun r (_ : Unit) => r = rv) (fun _ t => mc_Post (dC, dI) (va_A [] sz) [] t) (va_A [] sz)) 0 0 (va_A [] sz) := by
  refine Met.ofW (cc := cX2_byteOf) (maxL := 2) (ret := (some .int)) (by decide +kernel) rfl ?_
  intro p e s m args below meth c s₁ B hml hv
  obtain ⟨rfl, hsz, hP, hK, hD0, hnw⟩ := hv
  have hx := B.exec
  have hb := B.bytes
  have hr := B.returns
  have hts := atoms_spec (ws := wsX2_byteOf) B.pre
  have hown : s.vm.findClass RX2 = some m.cls := findClass_of_methodNamed B.named
  have hlocks := B.notSynchronized
  subst hsz
  have hD := hD0.self (sz := s.heap.size)
  generalize hAe : va_A [] s.heap.size = A at hD ⊢
  have hA : ∀ q : Nat, s.heap.size ≤ q → A q := fun q h => by rw [← hAe]; exact Or.inr h
  have hS : va_S A s.heap s.heap [] := va_S.rf
  have hP : va_P (dC, dI) vwCl [] s.heap := hP
  have hl := lv_entry ([.int p0, .int p1]) (n := 2) (Nat.le_of_ble_eq_true rfl)
  rw [lg_entry_eq]
  generalize (lg_sl ([.int p0, .int p1]) ++ List.replicate (2 - (lg_sl ([.int p0, .int p1])).length) Slot.unset).toArray = ls at hl ⊢
  have hl : lv_has ls 2 [(0, .int p0), (1, .int p1)] := hl
  obtain ⟨QQ, hQQ⟩ : ∃ Q, Q = MQ below (va_Qi (fun r (_ : Unit) => r = rv) (fun _ t => mc_Post (dC, dI) A [] t) A) ([Value.int p0, Value.int p1] : List Value).toArray s 0 0 A := ⟨_, rfl⟩
  rw [← hQQ]
  have h := hf
  unfold f_X2_byteOf at h
  refine lv_iload_n hx hb dX2_byteOf_0 rfl (lv_at hl 0 rfl) ?_
  refine lv_bipush (v := 8) hx hb dX2_byteOf_1 (by decide) ?_
  refine lv_iload_n hx hb dX2_byteOf_3 rfl (lv_at hl 1 rfl) ?_
  refine lv_imul hx hb dX2_byteOf_4 ?_
  refine lv_iushr (v := ((p0).toUInt32 >>> ((((8 : Int32) * p1)).toUInt32 &&& Int32.toUInt32 31)).toInt32) hx hb dX2_byteOf_5 rfl ?_
  refine lv_sipush (v := 255) hx hb dX2_byteOf_6 (by decide) ?_
  refine lv_iand hx hb dX2_byteOf_9 ?_
  obtain hE0 := dm_i1 h
  subst hE0
  rw [hQQ]
  have hP9 := hP.sub (ws' := []) [] rfl
  have hD9 := hD.sub (ws' := []) [] (by decide) rfl
  exact W.iret (v := (((p0).toUInt32 >>> ((((8 : Int32) * p1)).toUInt32 &&& Int32.toUInt32 31)).toInt32 &&& (255 : Int32))) hx hb hr (fun t ht hW => ⟨⟨(((p0).toUInt32 >>> ((((8 : Int32) * p1)).toUInt32 &&& Int32.toUInt32 31)).toInt32 &&& (255 : Int32)), (), rfl, rfl, by rw [ht]; exact hP9, hD9⟩, hS.F ht⟩) hS.2.2 dX2_byteOf_10

def f_X2_isCapital (p0 : Int32) : Option (Int32) :=
  if p0 < (65 : Int32) then
    some (0 : Int32)
  else
    if (90 : Int32) < p0 then
      some (0 : Int32)
    else
      some (1 : Int32)
set_option maxHeartbeats 4000000 in
set_option maxRecDepth 100000 in
theorem c_X2_isCapital (l : Launch) (dC : Nat → ClassId) (dI : Nat → Nat → Nat) (cyI cyJ cyC : ClassId) (sz : Nat)  (p0 : Int32) (rv : Int32) (hf : f_X2_isCapital p0 = some rv) : Met l yX2_isCapital wsX2_isCapital { frames := 0, cells := 0, slots := 0, locals := 0 } (va_Pc [.int p0] (mc_Pre (dC, dI) (mc_tys cyI cyJ cyC) [] sz)) (va_Qi (fun r (_ : Unit) => r = rv) (fun _ t => mc_Post (dC, dI) (va_A [] sz) [] t) (va_A [] sz)) 0 0 (va_A [] sz) := by
  refine Met.ofW (cc := cX2_isCapital) (maxL := 1) (ret := (some .boolean)) (by decide +kernel) rfl ?_
  intro p e s m args below meth c s₁ B hml hv
  obtain ⟨rfl, hsz, hP, hK, hD0, hnw⟩ := hv
  have hx := B.exec
  have hb := B.bytes
  have hr := B.returns
  have hts := atoms_spec (ws := wsX2_isCapital) B.pre
  have hown : s.vm.findClass RX2 = some m.cls := findClass_of_methodNamed B.named
  have hlocks := B.notSynchronized
  subst hsz
  have hD := hD0.self (sz := s.heap.size)
  generalize hAe : va_A [] s.heap.size = A at hD ⊢
  have hA : ∀ q : Nat, s.heap.size ≤ q → A q := fun q h => by rw [← hAe]; exact Or.inr h
  have hS : va_S A s.heap s.heap [] := va_S.rf
  have hP : va_P (dC, dI) vwCl [] s.heap := hP
  have hl := lv_entry ([.int p0]) (n := 1) (Nat.le_of_ble_eq_true rfl)
  rw [lg_entry_eq]
  generalize (lg_sl ([.int p0]) ++ List.replicate (1 - (lg_sl ([.int p0])).length) Slot.unset).toArray = ls at hl ⊢
  have hl : lv_has ls 1 [(0, .int p0)] := hl
  obtain ⟨QQ, hQQ⟩ : ∃ Q, Q = MQ below (va_Qi (fun r (_ : Unit) => r = rv) (fun _ t => mc_Post (dC, dI) A [] t) A) ([Value.int p0] : List Value).toArray s 0 0 A := ⟨_, rfl⟩
  rw [← hQQ]
  have h := hf
  unfold f_X2_isCapital at h
  refine lv_iload_n hx hb dX2_isCapital_0 rfl (lv_at hl 0 rfl) ?_
  refine lv_bipush (v := 65) hx hb dX2_isCapital_1 (by decide) ?_
  refine lv_icmp_lt (tgt := 16) hx hb dX2_isCapital_3 (by decide) (fun hc1 => ?_) (fun hc1 => ?_)
  · have h := dm_t hc1 h
    refine lv_iconst (v := 0) hx hb dX2_isCapital_16 (by decide) ?_
    obtain hE0 := dm_i1 h
    subst hE0
    rw [hQQ]
    have hP9 := hP.sub (ws' := []) [] rfl
    have hD9 := hD.sub (ws' := []) [] (by decide) rfl
    exact W.zret (v := (0 : Int32)) hx hb hr rfl (fun t ht hW => ⟨⟨(0 : Int32), (), rfl, rfl, by rw [ht]; exact hP9, hD9⟩, hS.F ht⟩) hS.2.2 dX2_isCapital_17
  · have h := dm_f hc1 h
    refine lv_iload_n hx hb dX2_isCapital_6 rfl (lv_at hl 0 rfl) ?_
    refine lv_bipush (v := 90) hx hb dX2_isCapital_7 (by decide) ?_
    refine lv_icmp_gt (tgt := 16) hx hb dX2_isCapital_9 (by decide) (fun hc2 => ?_) (fun hc2 => ?_)
    · have h := dm_t hc2 h
      refine lv_iconst (v := 0) hx hb dX2_isCapital_16 (by decide) ?_
      obtain hE0 := dm_i1 h
      subst hE0
      rw [hQQ]
      have hP9 := hP.sub (ws' := []) [] rfl
      have hD9 := hD.sub (ws' := []) [] (by decide) rfl
      exact W.zret (v := (0 : Int32)) hx hb hr rfl (fun t ht hW => ⟨⟨(0 : Int32), (), rfl, rfl, by rw [ht]; exact hP9, hD9⟩, hS.F ht⟩) hS.2.2 dX2_isCapital_17
    · have h := dm_f hc2 h
      refine lv_iconst (v := 1) hx hb dX2_isCapital_12 (by decide) ?_
      refine lv_goto (tgt := 17) hx hb dX2_isCapital_13 (by decide) ?_
      obtain hE0 := dm_i1 h
      subst hE0
      rw [hQQ]
      have hP9 := hP.sub (ws' := []) [] rfl
      have hD9 := hD.sub (ws' := []) [] (by decide) rfl
      exact W.zret (v := (1 : Int32)) hx hb hr rfl (fun t ht hW => ⟨⟨(1 : Int32), (), rfl, rfl, by rw [ht]; exact hP9, hD9⟩, hS.F ht⟩) hS.2.2 dX2_isCapital_17

def f_X2_isPower (p0 : Int32) : Option (Int32) :=
  if p0 < (50 : Int32) then
    some (0 : Int32)
  else
    if (57 : Int32) < p0 then
      some (0 : Int32)
    else
      some (1 : Int32)
set_option maxHeartbeats 4000000 in
set_option maxRecDepth 100000 in
theorem c_X2_isPower (l : Launch) (dC : Nat → ClassId) (dI : Nat → Nat → Nat) (cyI cyJ cyC : ClassId) (sz : Nat)  (p0 : Int32) (rv : Int32) (hf : f_X2_isPower p0 = some rv) : Met l yX2_isPower wsX2_isPower { frames := 0, cells := 0, slots := 0, locals := 0 } (va_Pc [.int p0] (mc_Pre (dC, dI) (mc_tys cyI cyJ cyC) [] sz)) (va_Qi (fun r (_ : Unit) => r = rv) (fun _ t => mc_Post (dC, dI) (va_A [] sz) [] t) (va_A [] sz)) 0 0 (va_A [] sz) := by
  refine Met.ofW (cc := cX2_isPower) (maxL := 1) (ret := (some .boolean)) (by decide +kernel) rfl ?_
  intro p e s m args below meth c s₁ B hml hv
  obtain ⟨rfl, hsz, hP, hK, hD0, hnw⟩ := hv
  have hx := B.exec
  have hb := B.bytes
  have hr := B.returns
  have hts := atoms_spec (ws := wsX2_isPower) B.pre
  have hown : s.vm.findClass RX2 = some m.cls := findClass_of_methodNamed B.named
  have hlocks := B.notSynchronized
  subst hsz
  have hD := hD0.self (sz := s.heap.size)
  generalize hAe : va_A [] s.heap.size = A at hD ⊢
  have hA : ∀ q : Nat, s.heap.size ≤ q → A q := fun q h => by rw [← hAe]; exact Or.inr h
  have hS : va_S A s.heap s.heap [] := va_S.rf
  have hP : va_P (dC, dI) vwCl [] s.heap := hP
  have hl := lv_entry ([.int p0]) (n := 1) (Nat.le_of_ble_eq_true rfl)
  rw [lg_entry_eq]
  generalize (lg_sl ([.int p0]) ++ List.replicate (1 - (lg_sl ([.int p0])).length) Slot.unset).toArray = ls at hl ⊢
  have hl : lv_has ls 1 [(0, .int p0)] := hl
  obtain ⟨QQ, hQQ⟩ : ∃ Q, Q = MQ below (va_Qi (fun r (_ : Unit) => r = rv) (fun _ t => mc_Post (dC, dI) A [] t) A) ([Value.int p0] : List Value).toArray s 0 0 A := ⟨_, rfl⟩
  rw [← hQQ]
  have h := hf
  unfold f_X2_isPower at h
  refine lv_iload_n hx hb dX2_isPower_0 rfl (lv_at hl 0 rfl) ?_
  refine lv_bipush (v := 50) hx hb dX2_isPower_1 (by decide) ?_
  refine lv_icmp_lt (tgt := 16) hx hb dX2_isPower_3 (by decide) (fun hc1 => ?_) (fun hc1 => ?_)
  · have h := dm_t hc1 h
    refine lv_iconst (v := 0) hx hb dX2_isPower_16 (by decide) ?_
    obtain hE0 := dm_i1 h
    subst hE0
    rw [hQQ]
    have hP9 := hP.sub (ws' := []) [] rfl
    have hD9 := hD.sub (ws' := []) [] (by decide) rfl
    exact W.zret (v := (0 : Int32)) hx hb hr rfl (fun t ht hW => ⟨⟨(0 : Int32), (), rfl, rfl, by rw [ht]; exact hP9, hD9⟩, hS.F ht⟩) hS.2.2 dX2_isPower_17
  · have h := dm_f hc1 h
    refine lv_iload_n hx hb dX2_isPower_6 rfl (lv_at hl 0 rfl) ?_
    refine lv_bipush (v := 57) hx hb dX2_isPower_7 (by decide) ?_
    refine lv_icmp_gt (tgt := 16) hx hb dX2_isPower_9 (by decide) (fun hc2 => ?_) (fun hc2 => ?_)
    · have h := dm_t hc2 h
      refine lv_iconst (v := 0) hx hb dX2_isPower_16 (by decide) ?_
      obtain hE0 := dm_i1 h
      subst hE0
      rw [hQQ]
      have hP9 := hP.sub (ws' := []) [] rfl
      have hD9 := hD.sub (ws' := []) [] (by decide) rfl
      exact W.zret (v := (0 : Int32)) hx hb hr rfl (fun t ht hW => ⟨⟨(0 : Int32), (), rfl, rfl, by rw [ht]; exact hP9, hD9⟩, hS.F ht⟩) hS.2.2 dX2_isPower_17
    · have h := dm_f hc2 h
      refine lv_iconst (v := 1) hx hb dX2_isPower_12 (by decide) ?_
      refine lv_goto (tgt := 17) hx hb dX2_isPower_13 (by decide) ?_
      obtain hE0 := dm_i1 h
      subst hE0
      rw [hQQ]
      have hP9 := hP.sub (ws' := []) [] rfl
      have hD9 := hD.sub (ws' := []) [] (by decide) rfl
      exact W.zret (v := (1 : Int32)) hx hb hr rfl (fun t ht hW => ⟨⟨(1 : Int32), (), rfl, rfl, by rw [ht]; exact hP9, hD9⟩, hS.F ht⟩) hS.2.2 dX2_isPower_17

def f_X2_isLetter (p0 : Int32) : Option (Int32) :=
  dm_b1 (f_X2_isCapital p0) fun r1 =>
  if r1 = 0 then
    if p0 < (97 : Int32) then
      some (0 : Int32)
    else
      if (122 : Int32) < p0 then
        some (0 : Int32)
      else
        some (1 : Int32)
  else
    some (1 : Int32)
set_option maxHeartbeats 4000000 in
set_option maxRecDepth 100000 in
theorem c_X2_isLetter (l : Launch) (dC : Nat → ClassId) (dI : Nat → Nat → Nat) (cyI cyJ cyC : ClassId) (sz : Nat)  (p0 : Int32) (rv : Int32) (hf : f_X2_isLetter p0 = some rv) : Met l yX2_isLetter wsX2_isLetter { frames := 1, cells := 0, slots := 0, locals := 20 } (va_Pc [.int p0] (mc_Pre (dC, dI) (mc_tys cyI cyJ cyC) [] sz)) (va_Qi (fun r (_ : Unit) => r = rv) (fun _ t => mc_Post (dC, dI) (va_A [] sz) [] t) (va_A [] sz)) 0 0 (va_A [] sz) := by
  refine Met.ofW (cc := cX2_isLetter) (maxL := 1) (ret := (some .boolean)) (by decide +kernel) rfl ?_
  intro p e s m args below meth c s₁ B hml hv
  obtain ⟨rfl, hsz, hP, hK, hD0, hnw⟩ := hv
  have hx := B.exec
  have hb := B.bytes
  have hr := B.returns
  have hts := atoms_spec (ws := wsX2_isLetter) B.pre
  have hown : s.vm.findClass RX2 = some m.cls := findClass_of_methodNamed B.named
  have hlocks := B.notSynchronized
  subst hsz
  have hD := hD0.self (sz := s.heap.size)
  generalize hAe : va_A [] s.heap.size = A at hD ⊢
  have hA : ∀ q : Nat, s.heap.size ≤ q → A q := fun q h => by rw [← hAe]; exact Or.inr h
  have hS : va_S A s.heap s.heap [] := va_S.rf
  have hP : va_P (dC, dI) vwCl [] s.heap := hP
  have hl := lv_entry ([.int p0]) (n := 1) (Nat.le_of_ble_eq_true rfl)
  rw [lg_entry_eq]
  generalize (lg_sl ([.int p0]) ++ List.replicate (1 - (lg_sl ([.int p0])).length) Slot.unset).toArray = ls at hl ⊢
  have hl : lv_has ls 1 [(0, .int p0)] := hl
  obtain ⟨QQ, hQQ⟩ : ∃ Q, Q = MQ below (va_Qi (fun r (_ : Unit) => r = rv) (fun _ t => mc_Post (dC, dI) A [] t) A) ([Value.int p0] : List Value).toArray s 0 0 A := ⟨_, rfl⟩
  rw [← hQQ]
  have h := hf
  unfold f_X2_isLetter at h
  refine lv_iload_n hx hb dX2_isLetter_0 rfl (lv_at hl 0 rfl) ?_
  obtain ⟨r1, hk2, h⟩ := dm_b1s h
  refine mc_i (wr := []) (va_runS (As := [.int p0]) (rest := []) ⟨hx, hb, hml, hown, hts⟩ (c_X2_isCapital l dC dI cyI cyJ cyC s.heap.size p0 r1 hk2) (va_cwS 1 hts gX2_isLetter_X2_isCapital rfl rfl rfl (by decide +kernel) ⟨(Nat.le_of_ble_eq_true rfl), (Nat.le_of_ble_eq_true rfl)⟩) (mc_preS hK (hP.sub (ws' := []) [] rfl) (hD.sub (ws' := []) [] (by decide) rfl) hnw) rfl rfl hl.1 rfl (lv_room (Nat.le_of_ble_eq_true rfl)) dX2_isLetter_1 ⟨Nat.zero_le _, Nat.zero_le _⟩) hP hD hS hA [] [] rfl rfl rfl (by decide) (fun H locs hP hD hS => ?_)
  have hP : va_P (dC, dI) vwCl [] H := hP
  have hD : va_D A [] := hD
  refine lv_if_ne (tgt := 19) hx hb dX2_isLetter_4 (by decide) (fun hc3 => ?_) (fun hc3 => ?_)
  · have h := dm_f hc3 h
    refine lv_iconst (v := 1) hx hb dX2_isLetter_19 (by decide) ?_
    refine lv_goto (tgt := 24) hx hb dX2_isLetter_20 (by decide) ?_
    obtain hE0 := dm_i1 h
    subst hE0
    rw [hQQ]
    have hP9 := hP.sub (ws' := []) [] rfl
    have hD9 := hD.sub (ws' := []) [] (by decide) rfl
    exact W.zret (v := (1 : Int32)) hx hb hr rfl (fun t ht hW => ⟨⟨(1 : Int32), (), rfl, rfl, by rw [ht]; exact hP9, hD9⟩, hS.F ht⟩) hS.2.2 dX2_isLetter_24
  · have h := dm_t hc3 h
    refine lv_iload_n hx hb dX2_isLetter_7 rfl (lv_at hl 0 rfl) ?_
    refine lv_bipush (v := 97) hx hb dX2_isLetter_8 (by decide) ?_
    refine lv_icmp_lt (tgt := 23) hx hb dX2_isLetter_10 (by decide) (fun hc4 => ?_) (fun hc4 => ?_)
    · have h := dm_t hc4 h
      refine lv_iconst (v := 0) hx hb dX2_isLetter_23 (by decide) ?_
      obtain hE0 := dm_i1 h
      subst hE0
      rw [hQQ]
      have hP9 := hP.sub (ws' := []) [] rfl
      have hD9 := hD.sub (ws' := []) [] (by decide) rfl
      exact W.zret (v := (0 : Int32)) hx hb hr rfl (fun t ht hW => ⟨⟨(0 : Int32), (), rfl, rfl, by rw [ht]; exact hP9, hD9⟩, hS.F ht⟩) hS.2.2 dX2_isLetter_24
    · have h := dm_f hc4 h
      refine lv_iload_n hx hb dX2_isLetter_13 rfl (lv_at hl 0 rfl) ?_
      refine lv_bipush (v := 122) hx hb dX2_isLetter_14 (by decide) ?_
      refine lv_icmp_gt (tgt := 23) hx hb dX2_isLetter_16 (by decide) (fun hc5 => ?_) (fun hc5 => ?_)
      · have h := dm_t hc5 h
        refine lv_iconst (v := 0) hx hb dX2_isLetter_23 (by decide) ?_
        obtain hE0 := dm_i1 h
        subst hE0
        rw [hQQ]
        have hP9 := hP.sub (ws' := []) [] rfl
        have hD9 := hD.sub (ws' := []) [] (by decide) rfl
        exact W.zret (v := (0 : Int32)) hx hb hr rfl (fun t ht hW => ⟨⟨(0 : Int32), (), rfl, rfl, by rw [ht]; exact hP9, hD9⟩, hS.F ht⟩) hS.2.2 dX2_isLetter_24
      · have h := dm_f hc5 h
        refine lv_iconst (v := 1) hx hb dX2_isLetter_19 (by decide) ?_
        refine lv_goto (tgt := 24) hx hb dX2_isLetter_20 (by decide) ?_
        obtain hE0 := dm_i1 h
        subst hE0
        rw [hQQ]
        have hP9 := hP.sub (ws' := []) [] rfl
        have hD9 := hD.sub (ws' := []) [] (by decide) rfl
        exact W.zret (v := (1 : Int32)) hx hb hr rfl (fun t ht hW => ⟨⟨(1 : Int32), (), rfl, rfl, by rw [ht]; exact hP9, hD9⟩, hS.F ht⟩) hS.2.2 dX2_isLetter_24

def f_X2_isAllowed (p0 : Int32) : Option (Int32) :=
  dm_b1 (f_X2_isLetter p0) fun r1 =>
  if r1 = 0 then
    dm_b1 (f_X2_isPower p0) fun r4 =>
    if r4 = 0 then
      if p0 = (40 : Int32) then
        some (1 : Int32)
      else
        if p0 = (41 : Int32) then
          some (1 : Int32)
        else
          some (0 : Int32)
    else
      some (1 : Int32)
  else
    some (1 : Int32)
set_option maxHeartbeats 4000000 in
set_option maxRecDepth 100000 in
theorem c_X2_isAllowed (l : Launch) (dC : Nat → ClassId) (dI : Nat → Nat → Nat) (cyI cyJ cyC : ClassId) (sz : Nat)  (p0 : Int32) (rv : Int32) (hf : f_X2_isAllowed p0 = some rv) : Met l yX2_isAllowed wsX2_isAllowed { frames := 2, cells := 0, slots := 0, locals := 40 } (va_Pc [.int p0] (mc_Pre (dC, dI) (mc_tys cyI cyJ cyC) [] sz)) (va_Qi (fun r (_ : Unit) => r = rv) (fun _ t => mc_Post (dC, dI) (va_A [] sz) [] t) (va_A [] sz)) 0 0 (va_A [] sz) := by
  refine Met.ofW (cc := cX2_isAllowed) (maxL := 1) (ret := (some .boolean)) (by decide +kernel) rfl ?_
  intro p e s m args below meth c s₁ B hml hv
  obtain ⟨rfl, hsz, hP, hK, hD0, hnw⟩ := hv
  have hx := B.exec
  have hb := B.bytes
  have hr := B.returns
  have hts := atoms_spec (ws := wsX2_isAllowed) B.pre
  have hown : s.vm.findClass RX2 = some m.cls := findClass_of_methodNamed B.named
  have hlocks := B.notSynchronized
  subst hsz
  have hD := hD0.self (sz := s.heap.size)
  generalize hAe : va_A [] s.heap.size = A at hD ⊢
  have hA : ∀ q : Nat, s.heap.size ≤ q → A q := fun q h => by rw [← hAe]; exact Or.inr h
  have hS : va_S A s.heap s.heap [] := va_S.rf
  have hP : va_P (dC, dI) vwCl [] s.heap := hP
  have hl := lv_entry ([.int p0]) (n := 1) (Nat.le_of_ble_eq_true rfl)
  rw [lg_entry_eq]
  generalize (lg_sl ([.int p0]) ++ List.replicate (1 - (lg_sl ([.int p0])).length) Slot.unset).toArray = ls at hl ⊢
  have hl : lv_has ls 1 [(0, .int p0)] := hl
  obtain ⟨QQ, hQQ⟩ : ∃ Q, Q = MQ below (va_Qi (fun r (_ : Unit) => r = rv) (fun _ t => mc_Post (dC, dI) A [] t) A) ([Value.int p0] : List Value).toArray s 0 0 A := ⟨_, rfl⟩
  rw [← hQQ]
  have h := hf
  unfold f_X2_isAllowed at h
  refine lv_iload_n hx hb dX2_isAllowed_0 rfl (lv_at hl 0 rfl) ?_
  obtain ⟨r1, hk2, h⟩ := dm_b1s h
  refine mc_i (wr := []) (va_runS (As := [.int p0]) (rest := []) ⟨hx, hb, hml, hown, hts⟩ (c_X2_isLetter l dC dI cyI cyJ cyC s.heap.size p0 r1 hk2) (va_cwS 1 hts gX2_isAllowed_X2_isLetter rfl rfl rfl (by decide +kernel) ⟨(Nat.le_of_ble_eq_true rfl), (Nat.le_of_ble_eq_true rfl)⟩) (mc_preS hK (hP.sub (ws' := []) [] rfl) (hD.sub (ws' := []) [] (by decide) rfl) hnw) rfl rfl hl.1 rfl (lv_room (Nat.le_of_ble_eq_true rfl)) dX2_isAllowed_1 ⟨Nat.zero_le _, Nat.zero_le _⟩) hP hD hS hA [] [] rfl rfl rfl (by decide) (fun H locs hP hD hS => ?_)
  have hP : va_P (dC, dI) vwCl [] H := hP
  have hD : va_D A [] := hD
  refine lv_if_ne (tgt := 26) hx hb dX2_isAllowed_4 (by decide) (fun hc3 => ?_) (fun hc3 => ?_)
  · have h := dm_f hc3 h
    refine lv_iconst (v := 1) hx hb dX2_isAllowed_26 (by decide) ?_
    refine lv_goto (tgt := 31) hx hb dX2_isAllowed_27 (by decide) ?_
    obtain hE0 := dm_i1 h
    subst hE0
    rw [hQQ]
    have hP9 := hP.sub (ws' := []) [] rfl
    have hD9 := hD.sub (ws' := []) [] (by decide) rfl
    exact W.zret (v := (1 : Int32)) hx hb hr rfl (fun t ht hW => ⟨⟨(1 : Int32), (), rfl, rfl, by rw [ht]; exact hP9, hD9⟩, hS.F ht⟩) hS.2.2 dX2_isAllowed_31
  · have h := dm_t hc3 h
    refine lv_iload_n hx hb dX2_isAllowed_7 rfl (lv_at hl 0 rfl) ?_
    obtain ⟨r4, hk5, h⟩ := dm_b1s h
    refine mc_i (wr := []) (va_runS (As := [.int p0]) (rest := []) ⟨hx, hb, hml, hown, hts⟩ (c_X2_isPower l dC dI cyI cyJ cyC H.size p0 r4 hk5) (va_cwS 1 hts gX2_isAllowed_X2_isPower rfl rfl rfl (by decide +kernel) ⟨(Nat.le_of_ble_eq_true rfl), (Nat.le_of_ble_eq_true rfl)⟩) (mc_preS hK (hP.sub (ws' := []) [] rfl) (hD.sub (ws' := []) [] (by decide) rfl) hnw) rfl rfl hl.1 rfl (lv_room (Nat.le_of_ble_eq_true rfl)) dX2_isAllowed_8 ⟨Nat.zero_le _, Nat.zero_le _⟩) hP hD hS hA [] [] rfl rfl rfl (by decide) (fun H locs hP hD hS => ?_)
    have hP : va_P (dC, dI) vwCl [] H := hP
    have hD : va_D A [] := hD
    refine lv_if_ne (tgt := 26) hx hb dX2_isAllowed_11 (by decide) (fun hc6 => ?_) (fun hc6 => ?_)
    · have h := dm_f hc6 h
      refine lv_iconst (v := 1) hx hb dX2_isAllowed_26 (by decide) ?_
      refine lv_goto (tgt := 31) hx hb dX2_isAllowed_27 (by decide) ?_
      obtain hE0 := dm_i1 h
      subst hE0
      rw [hQQ]
      have hP9 := hP.sub (ws' := []) [] rfl
      have hD9 := hD.sub (ws' := []) [] (by decide) rfl
      exact W.zret (v := (1 : Int32)) hx hb hr rfl (fun t ht hW => ⟨⟨(1 : Int32), (), rfl, rfl, by rw [ht]; exact hP9, hD9⟩, hS.F ht⟩) hS.2.2 dX2_isAllowed_31
    · have h := dm_t hc6 h
      refine lv_iload_n hx hb dX2_isAllowed_14 rfl (lv_at hl 0 rfl) ?_
      refine lv_bipush (v := 40) hx hb dX2_isAllowed_15 (by decide) ?_
      refine lv_icmp_eq (tgt := 26) hx hb dX2_isAllowed_17 (by decide) (fun hc7 => ?_) (fun hc7 => ?_)
      · have h := dm_t hc7 h
        refine lv_iconst (v := 1) hx hb dX2_isAllowed_26 (by decide) ?_
        refine lv_goto (tgt := 31) hx hb dX2_isAllowed_27 (by decide) ?_
        obtain hE0 := dm_i1 h
        subst hE0
        rw [hQQ]
        have hP9 := hP.sub (ws' := []) [] rfl
        have hD9 := hD.sub (ws' := []) [] (by decide) rfl
        exact W.zret (v := (1 : Int32)) hx hb hr rfl (fun t ht hW => ⟨⟨(1 : Int32), (), rfl, rfl, by rw [ht]; exact hP9, hD9⟩, hS.F ht⟩) hS.2.2 dX2_isAllowed_31
      · have h := dm_f hc7 h
        refine lv_iload_n hx hb dX2_isAllowed_20 rfl (lv_at hl 0 rfl) ?_
        refine lv_bipush (v := 41) hx hb dX2_isAllowed_21 (by decide) ?_
        refine lv_icmp_ne (tgt := 30) hx hb dX2_isAllowed_23 (by decide) (fun hc8 => ?_) (fun hc8 => ?_)
        · have h := dm_f hc8 h
          refine lv_iconst (v := 0) hx hb dX2_isAllowed_30 (by decide) ?_
          obtain hE0 := dm_i1 h
          subst hE0
          rw [hQQ]
          have hP9 := hP.sub (ws' := []) [] rfl
          have hD9 := hD.sub (ws' := []) [] (by decide) rfl
          exact W.zret (v := (0 : Int32)) hx hb hr rfl (fun t ht hW => ⟨⟨(0 : Int32), (), rfl, rfl, by rw [ht]; exact hP9, hD9⟩, hS.F ht⟩) hS.2.2 dX2_isAllowed_31
        · have h := dm_t hc8 h
          refine lv_iconst (v := 1) hx hb dX2_isAllowed_26 (by decide) ?_
          refine lv_goto (tgt := 31) hx hb dX2_isAllowed_27 (by decide) ?_
          obtain hE0 := dm_i1 h
          subst hE0
          rw [hQQ]
          have hP9 := hP.sub (ws' := []) [] rfl
          have hD9 := hD.sub (ws' := []) [] (by decide) rfl
          exact W.zret (v := (1 : Int32)) hx hb hr rfl (fun t ht hW => ⟨⟨(1 : Int32), (), rfl, rfl, by rw [ht]; exact hP9, hD9⟩, hS.F ht⟩) hS.2.2 dX2_isAllowed_31

def f_X2_numberOf (p0 : Int32) : Option (Int32) :=
  dm_b1 (f_X2_isCapital p0) fun r1 =>
  if r1 = 0 then
    some (p0 - (97 : Int32))
  else
    some (p0 - (65 : Int32))
set_option maxHeartbeats 4000000 in
set_option maxRecDepth 100000 in
theorem c_X2_numberOf (l : Launch) (dC : Nat → ClassId) (dI : Nat → Nat → Nat) (cyI cyJ cyC : ClassId) (sz : Nat)  (p0 : Int32) (rv : Int32) (hf : f_X2_numberOf p0 = some rv) : Met l yX2_numberOf wsX2_numberOf { frames := 1, cells := 0, slots := 0, locals := 20 } (va_Pc [.int p0] (mc_Pre (dC, dI) (mc_tys cyI cyJ cyC) [] sz)) (va_Qi (fun r (_ : Unit) => r = rv) (fun _ t => mc_Post (dC, dI) (va_A [] sz) [] t) (va_A [] sz)) 0 0 (va_A [] sz) := by
  refine Met.ofW (cc := cX2_numberOf) (maxL := 1) (ret := (some .int)) (by decide +kernel) rfl ?_
  intro p e s m args below meth c s₁ B hml hv
  obtain ⟨rfl, hsz, hP, hK, hD0, hnw⟩ := hv
  have hx := B.exec
  have hb := B.bytes
  have hr := B.returns
  have hts := atoms_spec (ws := wsX2_numberOf) B.pre
  have hown : s.vm.findClass RX2 = some m.cls := findClass_of_methodNamed B.named
  have hlocks := B.notSynchronized
  subst hsz
  have hD := hD0.self (sz := s.heap.size)
  generalize hAe : va_A [] s.heap.size = A at hD ⊢
  have hA : ∀ q : Nat, s.heap.size ≤ q → A q := fun q h => by rw [← hAe]; exact Or.inr h
  have hS : va_S A s.heap s.heap [] := va_S.rf
  have hP : va_P (dC, dI) vwCl [] s.heap := hP
  have hl := lv_entry ([.int p0]) (n := 1) (Nat.le_of_ble_eq_true rfl)
  rw [lg_entry_eq]
  generalize (lg_sl ([.int p0]) ++ List.replicate (1 - (lg_sl ([.int p0])).length) Slot.unset).toArray = ls at hl ⊢
  have hl : lv_has ls 1 [(0, .int p0)] := hl
  obtain ⟨QQ, hQQ⟩ : ∃ Q, Q = MQ below (va_Qi (fun r (_ : Unit) => r = rv) (fun _ t => mc_Post (dC, dI) A [] t) A) ([Value.int p0] : List Value).toArray s 0 0 A := ⟨_, rfl⟩
  rw [← hQQ]
  have h := hf
  unfold f_X2_numberOf at h
  refine lv_iload_n hx hb dX2_numberOf_0 rfl (lv_at hl 0 rfl) ?_
  obtain ⟨r1, hk2, h⟩ := dm_b1s h
  refine mc_i (wr := []) (va_runS (As := [.int p0]) (rest := []) ⟨hx, hb, hml, hown, hts⟩ (c_X2_isCapital l dC dI cyI cyJ cyC s.heap.size p0 r1 hk2) (va_cwS 1 hts gX2_numberOf_X2_isCapital rfl rfl rfl (by decide +kernel) ⟨(Nat.le_of_ble_eq_true rfl), (Nat.le_of_ble_eq_true rfl)⟩) (mc_preS hK (hP.sub (ws' := []) [] rfl) (hD.sub (ws' := []) [] (by decide) rfl) hnw) rfl rfl hl.1 rfl (lv_room (Nat.le_of_ble_eq_true rfl)) dX2_numberOf_1 ⟨Nat.zero_le _, Nat.zero_le _⟩) hP hD hS hA [] [] rfl rfl rfl (by decide) (fun H locs hP hD hS => ?_)
  have hP : va_P (dC, dI) vwCl [] H := hP
  have hD : va_D A [] := hD
  refine lv_if_eq (tgt := 14) hx hb dX2_numberOf_4 (by decide) (fun hc3 => ?_) (fun hc3 => ?_)
  · have h := dm_t hc3 h
    refine lv_iload_n hx hb dX2_numberOf_14 rfl (lv_at hl 0 rfl) ?_
    refine lv_bipush (v := 97) hx hb dX2_numberOf_15 (by decide) ?_
    refine lv_isub hx hb dX2_numberOf_17 ?_
    obtain hE0 := dm_i1 h
    subst hE0
    rw [hQQ]
    have hP9 := hP.sub (ws' := []) [] rfl
    have hD9 := hD.sub (ws' := []) [] (by decide) rfl
    exact W.iret (v := (p0 - (97 : Int32))) hx hb hr (fun t ht hW => ⟨⟨(p0 - (97 : Int32)), (), rfl, rfl, by rw [ht]; exact hP9, hD9⟩, hS.F ht⟩) hS.2.2 dX2_numberOf_18
  · have h := dm_f hc3 h
    refine lv_iload_n hx hb dX2_numberOf_7 rfl (lv_at hl 0 rfl) ?_
    refine lv_bipush (v := 65) hx hb dX2_numberOf_8 (by decide) ?_
    refine lv_isub hx hb dX2_numberOf_10 ?_
    refine lv_goto (tgt := 18) hx hb dX2_numberOf_11 (by decide) ?_
    obtain hE0 := dm_i1 h
    subst hE0
    rw [hQQ]
    have hP9 := hP.sub (ws' := []) [] rfl
    have hD9 := hD.sub (ws' := []) [] (by decide) rfl
    exact W.iret (v := (p0 - (65 : Int32))) hx hb hr (fun t ht hW => ⟨⟨(p0 - (65 : Int32)), (), rfl, rfl, by rw [ht]; exact hP9, hD9⟩, hS.F ht⟩) hS.2.2 dX2_numberOf_18

def f_X2_append_L53 (p0 : Int32)  : Nat → Int32 → (Nat → Int32) → Int32 → Option (Int32 × (Nat → Int32) × Int32)
  | 0, _, _, _ => none
  | n + 1, v7, v8, v9 =>
    if v7 < 0 then
      some ((1 : Int32), v8, v9)
    else
      dm_b1 (f_X2_byteOf p0 v7) fun r11 =>
      dm_g (¬ (v9 < 0 ∨ 40 ≤ (v9).toNatClampNeg)) <|
      dm_let (v9 + (1 : Int32)) fun x14 =>
      dm_let (v7 + (-1 : Int32)) fun x15 =>
      f_X2_append_L53 p0 n x15 (upd v8 (v9).toNatClampNeg r11) x14
def f_X2_append_L25 (trow : Nat → Int32) (tlen : Int32) (p0 : Int32) (p1 : Int32)  : Nat → Int32 → Option (Int32 × (Nat → Int32) × Int32)
  | 0, _ => none
  | n + 1, v4 =>
    if p1 ≤ v4 then
      dm_let (p1 - (1 : Int32)) fun x6 =>
      f_X2_append_L53 p0 100000 x6 trow tlen
    else
      dm_b1 (f_X2_byteOf p0 v4) fun r16 =>
      dm_b1 (f_X2_isAllowed r16) fun r18 =>
      if r18 = 0 then
        some ((0 : Int32), trow, tlen)
      else
        dm_let (v4 + (1 : Int32)) fun x21 =>
        f_X2_append_L25 trow tlen p0 p1 n x21
def f_X2_append (trow : Nat → Int32) (tlen : Int32) (p0 : Int32) (p1 : Int32) : Option (Int32 × (Nat → Int32) × Int32) :=
  if p1 < (1 : Int32) then
    some ((0 : Int32), trow, tlen)
  else
    if (4 : Int32) < p1 then
      some ((0 : Int32), trow, tlen)
    else
      if (tlen + p1) ≤ (40 : Int32) then
        f_X2_append_L25 trow tlen p0 p1 100000 (0 : Int32)
      else
        some ((0 : Int32), trow, tlen)
set_option maxHeartbeats 4000000 in
set_option maxRecDepth 100000 in
theorem c_X2_append (l : Launch) (dC : Nat → ClassId) (dI : Nat → Nat → Nat) (cyI cyJ cyC : ClassId) (th tqr tqo : Nat) (sz : Nat) (trow : Nat → Int32) (topn : Nat → Int32) (tlen : Int32) (p0 : Int32) (p1 : Int32) (rv : Int32) (trow' : Nat → Int32) (tlen' : Int32) (hf : f_X2_append trow tlen p0 p1 = some (rv, trow', tlen')) : Met l yX2_append wsX2_append { frames := 3, cells := 0, slots := 0, locals := 60 } (va_Pc [.ref th, .int p0, .int p1] (mc_Pre (dC, dI) (mc_tys cyI cyJ cyC) [(th, .inr (2, [.ref tqr, .ref tqo, .int tlen])), (tqr, .inl (cyI, 40, .inl trow)), (tqo, .inl (cyI, 5, .inl topn))] sz)) (va_Qi (fun r (_ : Unit) => r = rv) (fun _ t => mc_Post (dC, dI) (va_A [(th, .inr (2, [.ref tqr, .ref tqo, .int tlen])), (tqr, .inl (cyI, 40, .inl trow)), (tqo, .inl (cyI, 5, .inl topn))] sz) [(th, .inr (2, [.ref tqr, .ref tqo, .int tlen'])), (tqr, .inl (cyI, 40, .inl trow')), (tqo, .inl (cyI, 5, .inl topn))] t) (va_A [(th, .inr (2, [.ref tqr, .ref tqo, .int tlen])), (tqr, .inl (cyI, 40, .inl trow)), (tqo, .inl (cyI, 5, .inl topn))] sz)) 0 0 (va_A [(th, .inr (2, [.ref tqr, .ref tqo, .int tlen])), (tqr, .inl (cyI, 40, .inl trow)), (tqo, .inl (cyI, 5, .inl topn))] sz) := by
  refine Met.ofW (cc := cX2_append) (maxL := 4) (ret := (some .boolean)) (by decide +kernel) rfl ?_
  intro p e s m args below meth c s₁ B hml hv
  obtain ⟨rfl, hsz, hP, hK, hD0, hnw⟩ := hv
  have hx := B.exec
  have hb := B.bytes
  have hr := B.returns
  have hts := atoms_spec (ws := wsX2_append) B.pre
  have hown : s.vm.findClass RX2 = some m.cls := findClass_of_methodNamed B.named
  have hlocks := B.notSynchronized
  have hinX2 : ∀ w ∈ wsX20, w ∈ wsX2_append := by decide +kernel
  subst hsz
  have hD := hD0.self (sz := s.heap.size)
  generalize hAe : va_A [(th, .inr (2, [.ref tqr, .ref tqo, .int tlen])), (tqr, .inl (cyI, 40, .inl trow)), (tqo, .inl (cyI, 5, .inl topn))] s.heap.size = A at hD ⊢
  have hA : ∀ q : Nat, s.heap.size ≤ q → A q := fun q h => by rw [← hAe]; exact Or.inr h
  have hS : va_S A s.heap s.heap [] := va_S.rf
  have hP : va_P (dC, dI) vwCl [(th, .inr (2, [.ref tqr, .ref tqo, .int tlen])), (tqr, .inl (cyI, 40, .inl trow)), (tqo, .inl (cyI, 5, .inl topn))] s.heap := hP
  have hl := lv_entry ([.ref th, .int p0, .int p1]) (n := 4) (Nat.le_of_ble_eq_true rfl)
  rw [lg_entry_eq]
  generalize (lg_sl ([.ref th, .int p0, .int p1]) ++ List.replicate (4 - (lg_sl ([.ref th, .int p0, .int p1])).length) Slot.unset).toArray = ls at hl ⊢
  have hl : lv_has ls 4 [(0, .ref th), (1, .int p0), (2, .int p1)] := hl
  obtain ⟨QQ, hQQ⟩ : ∃ Q, Q = MQ below (va_Qi (fun r (_ : Unit) => r = rv) (fun _ t => mc_Post (dC, dI) A [(th, .inr (2, [.ref tqr, .ref tqo, .int tlen'])), (tqr, .inl (cyI, 40, .inl trow')), (tqo, .inl (cyI, 5, .inl topn))] t) A) ([Value.ref th, Value.int p0, Value.int p1] : List Value).toArray s 0 0 A := ⟨_, rfl⟩
  rw [← hQQ]
  have h := hf
  unfold f_X2_append at h
  refine lv_iload_n hx hb dX2_append_0 rfl (lv_at hl 2 rfl) ?_
  refine lv_iconst (v := 1) hx hb dX2_append_1 (by decide) ?_
  refine lv_icmp_lt (tgt := 21) hx hb dX2_append_2 (by decide) (fun hc1 => ?_) (fun hc1 => ?_)
  · have h := dm_t hc1 h
    refine lv_iconst (v := 0) hx hb dX2_append_21 (by decide) ?_
    obtain ⟨hE0, hE1, hE2⟩ := dm_i3 h
    subst hE0; subst hE1; subst hE2
    rw [hQQ]
    have hP9 := hP.sub (ws' := [(th, .inr (2, [.ref tqr, .ref tqo, .int tlen])), (tqr, .inl (cyI, 40, .inl trow)), (tqo, .inl (cyI, 5, .inl topn))]) [0, 1, 2] rfl
    have hD9 := hD.sub (ws' := [(th, .inr (2, [.ref tqr, .ref tqo, .int tlen])), (tqr, .inl (cyI, 40, .inl trow)), (tqo, .inl (cyI, 5, .inl topn))]) [0, 1, 2] (by decide) rfl
    exact W.zret (v := (0 : Int32)) hx hb hr rfl (fun t ht hW => ⟨⟨(0 : Int32), (), rfl, rfl, by rw [ht]; exact hP9, hD9⟩, hS.F ht⟩) hS.2.2 dX2_append_22
  · have h := dm_f hc1 h
    refine lv_iload_n hx hb dX2_append_5 rfl (lv_at hl 2 rfl) ?_
    refine lv_iconst (v := 4) hx hb dX2_append_6 (by decide) ?_
    refine lv_icmp_gt (tgt := 21) hx hb dX2_append_7 (by decide) (fun hc2 => ?_) (fun hc2 => ?_)
    · have h := dm_t hc2 h
      refine lv_iconst (v := 0) hx hb dX2_append_21 (by decide) ?_
      obtain ⟨hE0, hE1, hE2⟩ := dm_i3 h
      subst hE0; subst hE1; subst hE2
      rw [hQQ]
      have hP9 := hP.sub (ws' := [(th, .inr (2, [.ref tqr, .ref tqo, .int tlen])), (tqr, .inl (cyI, 40, .inl trow)), (tqo, .inl (cyI, 5, .inl topn))]) [0, 1, 2] rfl
      have hD9 := hD.sub (ws' := [(th, .inr (2, [.ref tqr, .ref tqo, .int tlen])), (tqr, .inl (cyI, 40, .inl trow)), (tqo, .inl (cyI, 5, .inl topn))]) [0, 1, 2] (by decide) rfl
      exact W.zret (v := (0 : Int32)) hx hb hr rfl (fun t ht hW => ⟨⟨(0 : Int32), (), rfl, rfl, by rw [ht]; exact hP9, hD9⟩, hS.F ht⟩) hS.2.2 dX2_append_22
    · have h := dm_f hc2 h
      refine lv_aload_n hx hb dX2_append_10 rfl (lv_at hl 0 rfl) ?_
      refine va_get (D := (dC, dI)) (ci := 2) (v := .int tlen) (C := RX2) (T := TX2) (N := 3) hx hb hts hinX2 hown hK hP 0 rfl rfl 2 (by decide) (hts (.fieldLink RX2 18 "FormDesk$Word" "length" "I") (by decide +kernel)) (fun _ h9 => h9) rfl dX2_append_11 ?_
      refine lv_iload_n hx hb dX2_append_14 rfl (lv_at hl 2 rfl) ?_
      refine lv_iadd hx hb dX2_append_15 ?_
      refine lv_bipush (v := 40) hx hb dX2_append_16 (by decide) ?_
      refine lv_icmp_le (tgt := 23) hx hb dX2_append_18 (by decide) (fun hc3 => ?_) (fun hc3 => ?_)
      · have h := dm_t hc3 h
        refine lv_iconst (v := 0) hx hb dX2_append_23 (by decide) ?_
        refine lv_istore_n (lv' := [(3, .int (0 : Int32)), (0, .ref th), (1, .int p0), (2, .int p1)]) hx hb dX2_append_24 rfl hl (by decide) rfl (fun ls hl => ?_)
        have L25 : ∀ (n25 : Nat) (v4 : Int32) (H : Heap) (locs : List Loc) (ls : Array Slot), f_X2_append_L25 trow tlen p0 p1 n25 v4 = some (rv, trow', tlen') → va_P (dC, dI) vwCl [(th, .inr (2, [.ref tqr, .ref tqo, .int tlen])), (tqr, .inl (cyI, 40, .inl trow)), (tqo, .inl (cyI, 5, .inl topn))] H → va_D A [(th, .inr (2, [.ref tqr, .ref tqo, .int tlen])), (tqr, .inl (cyI, 40, .inl trow)), (tqo, .inl (cyI, 5, .inl topn))] → va_S A s.heap H locs → lv_has ls 4 [(3, .int v4), (0, .ref th), (1, .int p0), (2, .int p1)] → W p l e (headSpec wsX2_append { frames := 3, cells := 0, slots := 0, locals := 60 }).room s m ([Value.ref th, Value.int p0, Value.int p1] : List Value).toArray below meth c H locs 0 0 QQ (F0 m 25 ls []) := by
          intro n25
          induction n25 with
          | zero =>
            intro v4 H locs ls h
            exact nomatch (show (none : Option (Int32 × (Nat → Int32) × Int32)) = some _ from h)
          | succ n25 ih25 =>
            intro v4 H locs ls h hP hD hS hl
            rw [f_X2_append_L25] at h
            refine lv_iload_n hx hb dX2_append_25 rfl (lv_at hl 0 rfl) ?_
            refine lv_iload_n hx hb dX2_append_26 rfl (lv_at hl 3 rfl) ?_
            refine lv_icmp_ge (tgt := 49) hx hb dX2_append_27 (by decide) (fun hc5 => ?_) (fun hc5 => ?_)
            · have h := dm_t hc5 h
              refine lv_iload_n hx hb dX2_append_49 rfl (lv_at hl 3 rfl) ?_
              refine lv_iconst (v := 1) hx hb dX2_append_50 (by decide) ?_
              refine lv_isub hx hb dX2_append_51 ?_
              refine lv_topi (fun x6 ex6 => ?_)
              have h := dm_lu ex6 h
              refine lv_istore_n (lv' := [(3, .int x6), (0, .ref th), (1, .int p0), (2, .int p1)]) hx hb dX2_append_52 rfl hl (by decide) rfl (fun ls hl => ?_)
              have L53 : ∀ (n53 : Nat) (v7 : Int32) (v8 : Nat → Int32) (v9 : Int32) (H : Heap) (locs : List Loc) (ls : Array Slot), f_X2_append_L53 p0 n53 v7 v8 v9 = some (rv, trow', tlen') → va_P (dC, dI) vwCl [(th, .inr (2, [.ref tqr, .ref tqo, .int v9])), (tqr, .inl (cyI, 40, .inl v8)), (tqo, .inl (cyI, 5, .inl topn))] H → va_D A [(th, .inr (2, [.ref tqr, .ref tqo, .int v9])), (tqr, .inl (cyI, 40, .inl v8)), (tqo, .inl (cyI, 5, .inl topn))] → va_S A s.heap H locs → lv_has ls 4 [(3, .int v7), (0, .ref th), (1, .int p0), (2, .int p1)] → W p l e (headSpec wsX2_append { frames := 3, cells := 0, slots := 0, locals := 60 }).room s m ([Value.ref th, Value.int p0, Value.int p1] : List Value).toArray below meth c H locs 0 0 QQ (F0 m 53 ls []) := by
                intro n53
                induction n53 with
                | zero =>
                  intro v7 v8 v9 H locs ls h
                  exact nomatch (show (none : Option (Int32 × (Nat → Int32) × Int32)) = some _ from h)
                | succ n53 ih53 =>
                  intro v7 v8 v9 H locs ls h hP hD hS hl
                  rw [f_X2_append_L53] at h
                  refine lv_iload_n hx hb dX2_append_53 rfl (lv_at hl 0 rfl) ?_
                  refine lv_if_lt (tgt := 87) hx hb dX2_append_54 (by decide) (fun hc10 => ?_) (fun hc10 => ?_)
                  · have h := dm_t hc10 h
                    refine lv_iconst (v := 1) hx hb dX2_append_87 (by decide) ?_
                    obtain ⟨hE0, hE1, hE2⟩ := dm_i3 h
                    subst hE0; subst hE1; subst hE2
                    rw [hQQ]
                    have hP9 := hP.sub (ws' := [(th, .inr (2, [.ref tqr, .ref tqo, .int v9])), (tqr, .inl (cyI, 40, .inl v8)), (tqo, .inl (cyI, 5, .inl topn))]) [0, 1, 2] rfl
                    have hD9 := hD.sub (ws' := [(th, .inr (2, [.ref tqr, .ref tqo, .int v9])), (tqr, .inl (cyI, 40, .inl v8)), (tqo, .inl (cyI, 5, .inl topn))]) [0, 1, 2] (by decide) rfl
                    exact W.zret (v := (1 : Int32)) hx hb hr rfl (fun t ht hW => ⟨⟨(1 : Int32), (), rfl, rfl, by rw [ht]; exact hP9, hD9⟩, hS.F ht⟩) hS.2.2 dX2_append_88
                  · have h := dm_f hc10 h
                    refine lv_aload_n hx hb dX2_append_57 rfl (lv_at hl 1 rfl) ?_
                    refine va_get (D := (dC, dI)) (ci := 2) (v := .ref tqr) (C := RX2) (T := TX2) (N := 3) hx hb hts hinX2 hown hK hP 0 rfl rfl 0 (by decide) (hts (.fieldLink RX2 9 "FormDesk$Word" "row" "[I") (by decide +kernel)) (fun _ h9 => h9) rfl dX2_append_58 ?_
                    refine lv_aload_n hx hb dX2_append_61 rfl (lv_at hl 1 rfl) ?_
                    refine va_get (D := (dC, dI)) (ci := 2) (v := .int v9) (C := RX2) (T := TX2) (N := 3) hx hb hts hinX2 hown hK hP 0 rfl rfl 2 (by decide) (hts (.fieldLink RX2 18 "FormDesk$Word" "length" "I") (by decide +kernel)) (fun _ h9 => h9) rfl dX2_append_62 ?_
                    refine lv_iload_n hx hb dX2_append_65 rfl (lv_at hl 2 rfl) ?_
                    refine lv_iload_n hx hb dX2_append_66 rfl (lv_at hl 0 rfl) ?_
                    obtain ⟨r11, hk12, h⟩ := dm_b1s h
                    refine mc_i (wr := [(th, .inr (2, [.ref tqr, .ref tqo, .int v9])), (tqr, .inl (cyI, 40, .inl v8)), (tqo, .inl (cyI, 5, .inl topn))]) (va_runS (As := [.int p0, .int v7]) (rest := [.int v9, .ref tqr]) ⟨hx, hb, hml, hown, hts⟩ (c_X2_byteOf l dC dI cyI cyJ cyC H.size p0 v7 r11 hk12) (va_cwS 2 hts gX2_append_X2_byteOf rfl rfl rfl (by decide +kernel) ⟨(Nat.le_of_ble_eq_true rfl), (Nat.le_of_ble_eq_true rfl)⟩) (mc_preS hK (hP.sub (ws' := []) [] rfl) (hD.sub (ws' := []) [] (by decide) rfl) hnw) rfl rfl hl.1 rfl (lv_room (Nat.le_of_ble_eq_true rfl)) dX2_append_67 ⟨Nat.zero_le _, Nat.zero_le _⟩) hP hD hS hA [] [0, 1, 2] rfl rfl rfl (by decide) (fun H locs hP hD hS => ?_)
                    have hP : va_P (dC, dI) vwCl [(th, .inr (2, [.ref tqr, .ref tqo, .int v9])), (tqr, .inl (cyI, 40, .inl v8)), (tqo, .inl (cyI, 5, .inl topn))] H := hP
                    have hD : va_D A [(th, .inr (2, [.ref tqr, .ref tqo, .int v9])), (tqr, .inl (cyI, 40, .inl v8)), (tqo, .inl (cyI, 5, .inl topn))] := hD
                    obtain ⟨hn13, h⟩ := dm_gs h
                    refine va_iast hx hb hK hP hD hS 1 0 rfl rfl hn13 dX2_append_70 (fun H locs hP hD hS => ?_)
                    have hP : va_P (dC, dI) vwCl [(th, .inr (2, [.ref tqr, .ref tqo, .int v9])), (tqr, .inl (cyI, 40, .inl (upd v8 (v9).toNatClampNeg r11))), (tqo, .inl (cyI, 5, .inl topn))] H := hP
                    have hD : va_D A [(th, .inr (2, [.ref tqr, .ref tqo, .int v9])), (tqr, .inl (cyI, 40, .inl (upd v8 (v9).toNatClampNeg r11))), (tqo, .inl (cyI, 5, .inl topn))] := hD
                    refine lv_aload_n hx hb dX2_append_71 rfl (lv_at hl 1 rfl) ?_
                    refine lv_dup hx hb dX2_append_72 rfl ?_
                    refine va_get (D := (dC, dI)) (ci := 2) (v := .int v9) (C := RX2) (T := TX2) (N := 3) hx hb hts hinX2 hown hK hP 0 rfl rfl 2 (by decide) (hts (.fieldLink RX2 18 "FormDesk$Word" "length" "I") (by decide +kernel)) (fun _ h9 => h9) rfl dX2_append_73 ?_
                    refine lv_iconst (v := 1) hx hb dX2_append_76 (by decide) ?_
                    refine lv_iadd hx hb dX2_append_77 ?_
                    refine lv_topi (fun x14 ex14 => ?_)
                    have h := dm_lu ex14 h
                    refine va_put (D := (dC, dI)) (ci := 2) (v := .int x14) (ty := .int) (C := RX2) (T := TX2) (N := 3) hx hb hts hinX2 tyX2 tyX2_ok nmX2 hown hK hP hD hS 0 rfl rfl 2 (by decide) (hts (.fieldLink RX2 18 "FormDesk$Word" "length" "I") (by decide +kernel)) (fun _ h9 => h9) rfl (by decide +kernel) rfl rfl (Nat.le_of_ble_eq_true rfl) dX2_append_78 (fun H locs hP hD hS => ?_)
                    have hP : va_P (dC, dI) vwCl [(th, .inr (2, [.ref tqr, .ref tqo, .int x14])), (tqr, .inl (cyI, 40, .inl (upd v8 (v9).toNatClampNeg r11))), (tqo, .inl (cyI, 5, .inl topn))] H := hP
                    have hD : va_D A [(th, .inr (2, [.ref tqr, .ref tqo, .int x14])), (tqr, .inl (cyI, 40, .inl (upd v8 (v9).toNatClampNeg r11))), (tqo, .inl (cyI, 5, .inl topn))] := hD
                    obtain ⟨x15, ex15⟩ : ∃ y : Int32, y = (v7 + (-1 : Int32)) := ⟨_, rfl⟩
                    have h := dm_lu ex15 h
                    refine lv_iinc (v := x15) (lv' := [(3, .int x15), (0, .ref th), (1, .int p0), (2, .int p1)]) hx hb dX2_append_81 hl (k := 0) rfl (by rw [ex15]; rfl) (by decide) rfl (fun ls hl => ?_)
                    refine lv_goto (tgt := 53) hx hb dX2_append_84 (by decide) ?_
                    exact ih53 x15 (upd v8 (v9).toNatClampNeg r11) x14 H _ ls h (hP.sub [0, 1, 2] rfl) (hD.sub [0, 1, 2] (by decide) rfl) hS (lv_sub hl [0, 1, 2, 3] rfl)
              exact L53 100000 x6 trow tlen H _ ls h hP hD hS hl
            · have h := dm_f hc5 h
              refine lv_iload_n hx hb dX2_append_30 rfl (lv_at hl 2 rfl) ?_
              refine lv_iload_n hx hb dX2_append_31 rfl (lv_at hl 0 rfl) ?_
              obtain ⟨r16, hk17, h⟩ := dm_b1s h
              refine mc_i (wr := [(th, .inr (2, [.ref tqr, .ref tqo, .int tlen])), (tqr, .inl (cyI, 40, .inl trow)), (tqo, .inl (cyI, 5, .inl topn))]) (va_runS (As := [.int p0, .int v4]) (rest := []) ⟨hx, hb, hml, hown, hts⟩ (c_X2_byteOf l dC dI cyI cyJ cyC H.size p0 v4 r16 hk17) (va_cwS 2 hts gX2_append_X2_byteOf rfl rfl rfl (by decide +kernel) ⟨(Nat.le_of_ble_eq_true rfl), (Nat.le_of_ble_eq_true rfl)⟩) (mc_preS hK (hP.sub (ws' := []) [] rfl) (hD.sub (ws' := []) [] (by decide) rfl) hnw) rfl rfl hl.1 rfl (lv_room (Nat.le_of_ble_eq_true rfl)) dX2_append_32 ⟨Nat.zero_le _, Nat.zero_le _⟩) hP hD hS hA [] [0, 1, 2] rfl rfl rfl (by decide) (fun H locs hP hD hS => ?_)
              have hP : va_P (dC, dI) vwCl [(th, .inr (2, [.ref tqr, .ref tqo, .int tlen])), (tqr, .inl (cyI, 40, .inl trow)), (tqo, .inl (cyI, 5, .inl topn))] H := hP
              have hD : va_D A [(th, .inr (2, [.ref tqr, .ref tqo, .int tlen])), (tqr, .inl (cyI, 40, .inl trow)), (tqo, .inl (cyI, 5, .inl topn))] := hD
              obtain ⟨r18, hk19, h⟩ := dm_b1s h
              refine mc_i (wr := [(th, .inr (2, [.ref tqr, .ref tqo, .int tlen])), (tqr, .inl (cyI, 40, .inl trow)), (tqo, .inl (cyI, 5, .inl topn))]) (va_runS (As := [.int r16]) (rest := []) ⟨hx, hb, hml, hown, hts⟩ (c_X2_isAllowed l dC dI cyI cyJ cyC H.size r16 r18 hk19) (va_cwS 1 hts gX2_append_X2_isAllowed rfl rfl rfl (by decide +kernel) ⟨(Nat.le_of_ble_eq_true rfl), (Nat.le_of_ble_eq_true rfl)⟩) (mc_preS hK (hP.sub (ws' := []) [] rfl) (hD.sub (ws' := []) [] (by decide) rfl) hnw) rfl rfl hl.1 rfl (lv_room (Nat.le_of_ble_eq_true rfl)) dX2_append_35 ⟨Nat.zero_le _, Nat.zero_le _⟩) hP hD hS hA [] [0, 1, 2] rfl rfl rfl (by decide) (fun H locs hP hD hS => ?_)
              have hP : va_P (dC, dI) vwCl [(th, .inr (2, [.ref tqr, .ref tqo, .int tlen])), (tqr, .inl (cyI, 40, .inl trow)), (tqo, .inl (cyI, 5, .inl topn))] H := hP
              have hD : va_D A [(th, .inr (2, [.ref tqr, .ref tqo, .int tlen])), (tqr, .inl (cyI, 40, .inl trow)), (tqo, .inl (cyI, 5, .inl topn))] := hD
              refine lv_if_ne (tgt := 43) hx hb dX2_append_38 (by decide) (fun hc20 => ?_) (fun hc20 => ?_)
              · have h := dm_f hc20 h
                obtain ⟨x21, ex21⟩ : ∃ y : Int32, y = (v4 + (1 : Int32)) := ⟨_, rfl⟩
                have h := dm_lu ex21 h
                refine lv_iinc (v := x21) (lv' := [(3, .int x21), (0, .ref th), (1, .int p0), (2, .int p1)]) hx hb dX2_append_43 hl (k := 0) rfl (by rw [ex21]; rfl) (by decide) rfl (fun ls hl => ?_)
                refine lv_goto (tgt := 25) hx hb dX2_append_46 (by decide) ?_
                exact ih25 x21 H _ ls h (hP.sub [0, 1, 2] rfl) (hD.sub [0, 1, 2] (by decide) rfl) hS (lv_sub hl [0, 1, 2, 3] rfl)
              · have h := dm_t hc20 h
                refine lv_iconst (v := 0) hx hb dX2_append_41 (by decide) ?_
                obtain ⟨hE0, hE1, hE2⟩ := dm_i3 h
                subst hE0; subst hE1; subst hE2
                rw [hQQ]
                have hP9 := hP.sub (ws' := [(th, .inr (2, [.ref tqr, .ref tqo, .int tlen])), (tqr, .inl (cyI, 40, .inl trow)), (tqo, .inl (cyI, 5, .inl topn))]) [0, 1, 2] rfl
                have hD9 := hD.sub (ws' := [(th, .inr (2, [.ref tqr, .ref tqo, .int tlen])), (tqr, .inl (cyI, 40, .inl trow)), (tqo, .inl (cyI, 5, .inl topn))]) [0, 1, 2] (by decide) rfl
                exact W.zret (v := (0 : Int32)) hx hb hr rfl (fun t ht hW => ⟨⟨(0 : Int32), (), rfl, rfl, by rw [ht]; exact hP9, hD9⟩, hS.F ht⟩) hS.2.2 dX2_append_42
        exact L25 100000 (0 : Int32) s.heap _ ls h hP hD hS hl
      · have h := dm_f hc3 h
        refine lv_iconst (v := 0) hx hb dX2_append_21 (by decide) ?_
        obtain ⟨hE0, hE1, hE2⟩ := dm_i3 h
        subst hE0; subst hE1; subst hE2
        rw [hQQ]
        have hP9 := hP.sub (ws' := [(th, .inr (2, [.ref tqr, .ref tqo, .int tlen])), (tqr, .inl (cyI, 40, .inl trow)), (tqo, .inl (cyI, 5, .inl topn))]) [0, 1, 2] rfl
        have hD9 := hD.sub (ws' := [(th, .inr (2, [.ref tqr, .ref tqo, .int tlen])), (tqr, .inl (cyI, 40, .inl trow)), (tqo, .inl (cyI, 5, .inl topn))]) [0, 1, 2] (by decide) rfl
        exact W.zret (v := (0 : Int32)) hx hb hr rfl (fun t ht hW => ⟨⟨(0 : Int32), (), rfl, rfl, by rw [ht]; exact hP9, hD9⟩, hS.F ht⟩) hS.2.2 dX2_append_22

def f_X2_isWellFormed_L6 (trow : Nat → Int32) (tlen : Int32)  : Nat → Int32 → Int32 → Int32 → Option (Int32)
  | 0, _, _, _ => none
  | n + 1, v1, v2, v3 =>
    if tlen ≤ v1 then
      if v3 = 0 then
        some (1 : Int32)
      else
        some (0 : Int32)
    else
      dm_g (¬ (v1 < 0 ∨ 40 ≤ (v1).toNatClampNeg)) <|
      dm_let (trow (v1).toNatClampNeg) fun x7 =>
      if x7 = (40 : Int32) then
        dm_let (v3 + (1 : Int32)) fun x51 =>
        if x51 < 0 then
          some (0 : Int32)
        else
          if (4 : Int32) < x51 then
            some (0 : Int32)
          else
            dm_b1 (f_X2_isPower x7) fun r54 =>
            if r54 = 0 then
              if x7 = (40 : Int32) then
                dm_let (v1 + (1 : Int32)) fun x58 =>
                f_X2_isWellFormed_L6 trow tlen n x58 (0 : Int32) x51
              else
                dm_b1 (f_X2_isPower x7) fun r59 =>
                if r59 = 0 then
                  dm_let (v1 + (1 : Int32)) fun x63 =>
                  f_X2_isWellFormed_L6 trow tlen n x63 (1 : Int32) x51
                else
                  dm_let (v1 + (1 : Int32)) fun x62 =>
                  f_X2_isWellFormed_L6 trow tlen n x62 (0 : Int32) x51
            else
              if v2 = 0 then
                some (0 : Int32)
              else
                if x7 = (40 : Int32) then
                  dm_let (v1 + (1 : Int32)) fun x66 =>
                  f_X2_isWellFormed_L6 trow tlen n x66 (0 : Int32) x51
                else
                  dm_b1 (f_X2_isPower x7) fun r67 =>
                  if r67 = 0 then
                    dm_let (v1 + (1 : Int32)) fun x71 =>
                    f_X2_isWellFormed_L6 trow tlen n x71 (1 : Int32) x51
                  else
                    dm_let (v1 + (1 : Int32)) fun x70 =>
                    f_X2_isWellFormed_L6 trow tlen n x70 (0 : Int32) x51
      else
        if x7 = (41 : Int32) then
          dm_let (v3 + (-1 : Int32)) fun x30 =>
          if x30 < 0 then
            some (0 : Int32)
          else
            if (4 : Int32) < x30 then
              some (0 : Int32)
            else
              dm_b1 (f_X2_isPower x7) fun r33 =>
              if r33 = 0 then
                if x7 = (40 : Int32) then
                  dm_let (v1 + (1 : Int32)) fun x37 =>
                  f_X2_isWellFormed_L6 trow tlen n x37 (0 : Int32) x30
                else
                  dm_b1 (f_X2_isPower x7) fun r38 =>
                  if r38 = 0 then
                    dm_let (v1 + (1 : Int32)) fun x42 =>
                    f_X2_isWellFormed_L6 trow tlen n x42 (1 : Int32) x30
                  else
                    dm_let (v1 + (1 : Int32)) fun x41 =>
                    f_X2_isWellFormed_L6 trow tlen n x41 (0 : Int32) x30
              else
                if v2 = 0 then
                  some (0 : Int32)
                else
                  if x7 = (40 : Int32) then
                    dm_let (v1 + (1 : Int32)) fun x45 =>
                    f_X2_isWellFormed_L6 trow tlen n x45 (0 : Int32) x30
                  else
                    dm_b1 (f_X2_isPower x7) fun r46 =>
                    if r46 = 0 then
                      dm_let (v1 + (1 : Int32)) fun x50 =>
                      f_X2_isWellFormed_L6 trow tlen n x50 (1 : Int32) x30
                    else
                      dm_let (v1 + (1 : Int32)) fun x49 =>
                      f_X2_isWellFormed_L6 trow tlen n x49 (0 : Int32) x30
        else
          if v3 < 0 then
            some (0 : Int32)
          else
            if (4 : Int32) < v3 then
              some (0 : Int32)
            else
              dm_b1 (f_X2_isPower x7) fun r12 =>
              if r12 = 0 then
                if x7 = (40 : Int32) then
                  dm_let (v1 + (1 : Int32)) fun x16 =>
                  f_X2_isWellFormed_L6 trow tlen n x16 (0 : Int32) v3
                else
                  dm_b1 (f_X2_isPower x7) fun r17 =>
                  if r17 = 0 then
                    dm_let (v1 + (1 : Int32)) fun x21 =>
                    f_X2_isWellFormed_L6 trow tlen n x21 (1 : Int32) v3
                  else
                    dm_let (v1 + (1 : Int32)) fun x20 =>
                    f_X2_isWellFormed_L6 trow tlen n x20 (0 : Int32) v3
              else
                if v2 = 0 then
                  some (0 : Int32)
                else
                  if x7 = (40 : Int32) then
                    dm_let (v1 + (1 : Int32)) fun x24 =>
                    f_X2_isWellFormed_L6 trow tlen n x24 (0 : Int32) v3
                  else
                    dm_b1 (f_X2_isPower x7) fun r25 =>
                    if r25 = 0 then
                      dm_let (v1 + (1 : Int32)) fun x29 =>
                      f_X2_isWellFormed_L6 trow tlen n x29 (1 : Int32) v3
                    else
                      dm_let (v1 + (1 : Int32)) fun x28 =>
                      f_X2_isWellFormed_L6 trow tlen n x28 (0 : Int32) v3
def f_X2_isWellFormed (trow : Nat → Int32) (tlen : Int32) : Option (Int32) :=
  f_X2_isWellFormed_L6 trow tlen 100000 (0 : Int32) (0 : Int32) (0 : Int32)
set_option maxHeartbeats 4000000 in
set_option maxRecDepth 100000 in
theorem c_X2_isWellFormed (l : Launch) (dC : Nat → ClassId) (dI : Nat → Nat → Nat) (cyI cyJ cyC : ClassId) (th tqr tqo : Nat) (sz : Nat) (trow : Nat → Int32) (topn : Nat → Int32) (tlen : Int32)  (rv : Int32) (hf : f_X2_isWellFormed trow tlen = some rv) : Met l yX2_isWellFormed wsX2_isWellFormed { frames := 1, cells := 0, slots := 0, locals := 20 } (va_Pc [.ref th] (mc_Pre (dC, dI) (mc_tys cyI cyJ cyC) [(th, .inr (2, [.ref tqr, .ref tqo, .int tlen])), (tqr, .inl (cyI, 40, .inl trow)), (tqo, .inl (cyI, 5, .inl topn))] sz)) (va_Qi (fun r (_ : Unit) => r = rv) (fun _ t => mc_Post (dC, dI) (va_A [(th, .inr (2, [.ref tqr, .ref tqo, .int tlen])), (tqr, .inl (cyI, 40, .inl trow)), (tqo, .inl (cyI, 5, .inl topn))] sz) [(th, .inr (2, [.ref tqr, .ref tqo, .int tlen])), (tqr, .inl (cyI, 40, .inl trow)), (tqo, .inl (cyI, 5, .inl topn))] t) (va_A [(th, .inr (2, [.ref tqr, .ref tqo, .int tlen])), (tqr, .inl (cyI, 40, .inl trow)), (tqo, .inl (cyI, 5, .inl topn))] sz)) 0 0 (va_A [(th, .inr (2, [.ref tqr, .ref tqo, .int tlen])), (tqr, .inl (cyI, 40, .inl trow)), (tqo, .inl (cyI, 5, .inl topn))] sz) := by
  refine Met.ofW (cc := cX2_isWellFormed) (maxL := 5) (ret := (some .boolean)) (by decide +kernel) rfl ?_
  intro p e s m args below meth c s₁ B hml hv
  obtain ⟨rfl, hsz, hP, hK, hD0, hnw⟩ := hv
  have hx := B.exec
  have hb := B.bytes
  have hr := B.returns
  have hts := atoms_spec (ws := wsX2_isWellFormed) B.pre
  have hown : s.vm.findClass RX2 = some m.cls := findClass_of_methodNamed B.named
  have hlocks := B.notSynchronized
  have hinX2 : ∀ w ∈ wsX20, w ∈ wsX2_isWellFormed := by decide +kernel
  subst hsz
  have hD := hD0.self (sz := s.heap.size)
  generalize hAe : va_A [(th, .inr (2, [.ref tqr, .ref tqo, .int tlen])), (tqr, .inl (cyI, 40, .inl trow)), (tqo, .inl (cyI, 5, .inl topn))] s.heap.size = A at hD ⊢
  have hA : ∀ q : Nat, s.heap.size ≤ q → A q := fun q h => by rw [← hAe]; exact Or.inr h
  have hS : va_S A s.heap s.heap [] := va_S.rf
  have hP : va_P (dC, dI) vwCl [(th, .inr (2, [.ref tqr, .ref tqo, .int tlen])), (tqr, .inl (cyI, 40, .inl trow)), (tqo, .inl (cyI, 5, .inl topn))] s.heap := hP
  have hl := lv_entry ([.ref th]) (n := 5) (Nat.le_of_ble_eq_true rfl)
  rw [lg_entry_eq]
  generalize (lg_sl ([.ref th]) ++ List.replicate (5 - (lg_sl ([.ref th])).length) Slot.unset).toArray = ls at hl ⊢
  have hl : lv_has ls 5 [(0, .ref th)] := hl
  obtain ⟨QQ, hQQ⟩ : ∃ Q, Q = MQ below (va_Qi (fun r (_ : Unit) => r = rv) (fun _ t => mc_Post (dC, dI) A [(th, .inr (2, [.ref tqr, .ref tqo, .int tlen])), (tqr, .inl (cyI, 40, .inl trow)), (tqo, .inl (cyI, 5, .inl topn))] t) A) ([Value.ref th] : List Value).toArray s 0 0 A := ⟨_, rfl⟩
  rw [← hQQ]
  have h := hf
  unfold f_X2_isWellFormed at h
  refine lv_iconst (v := 0) hx hb dX2_isWellFormed_0 (by decide) ?_
  refine lv_istore_n (lv' := [(1, .int (0 : Int32)), (0, .ref th)]) hx hb dX2_isWellFormed_1 rfl hl (by decide) rfl (fun ls hl => ?_)
  refine lv_iconst (v := 0) hx hb dX2_isWellFormed_2 (by decide) ?_
  refine lv_istore_n (lv' := [(2, .int (0 : Int32)), (1, .int (0 : Int32)), (0, .ref th)]) hx hb dX2_isWellFormed_3 rfl hl (by decide) rfl (fun ls hl => ?_)
  refine lv_iconst (v := 0) hx hb dX2_isWellFormed_4 (by decide) ?_
  refine lv_istore_n (lv' := [(3, .int (0 : Int32)), (2, .int (0 : Int32)), (1, .int (0 : Int32)), (0, .ref th)]) hx hb dX2_isWellFormed_5 rfl hl (by decide) rfl (fun ls hl => ?_)
  have L6 : ∀ (n6 : Nat) (v1 : Int32) (v2 : Int32) (v3 : Int32) (H : Heap) (locs : List Loc) (ls : Array Slot), f_X2_isWellFormed_L6 trow tlen n6 v1 v2 v3 = some rv → va_P (dC, dI) vwCl [(th, .inr (2, [.ref tqr, .ref tqo, .int tlen])), (tqr, .inl (cyI, 40, .inl trow)), (tqo, .inl (cyI, 5, .inl topn))] H → va_D A [(th, .inr (2, [.ref tqr, .ref tqo, .int tlen])), (tqr, .inl (cyI, 40, .inl trow)), (tqo, .inl (cyI, 5, .inl topn))] → va_S A s.heap H locs → lv_has ls 5 [(3, .int v1), (2, .int v2), (1, .int v3), (0, .ref th)] → W p l e (headSpec wsX2_isWellFormed { frames := 1, cells := 0, slots := 0, locals := 20 }).room s m ([Value.ref th] : List Value).toArray below meth c H locs 0 0 QQ (F0 m 6 ls []) := by
    intro n6
    induction n6 with
    | zero =>
      intro v1 v2 v3 H locs ls h
      exact nomatch (show (none : Option (Int32)) = some _ from h)
    | succ n6 ih6 =>
      intro v1 v2 v3 H locs ls h hP hD hS hl
      rw [f_X2_isWellFormed_L6] at h
      refine lv_iload_n hx hb dX2_isWellFormed_6 rfl (lv_at hl 0 rfl) ?_
      refine lv_aload_n hx hb dX2_isWellFormed_7 rfl (lv_at hl 3 rfl) ?_
      refine va_get (D := (dC, dI)) (ci := 2) (v := .int tlen) (C := RX2) (T := TX2) (N := 3) hx hb hts hinX2 hown hK hP 0 rfl rfl 2 (by decide) (hts (.fieldLink RX2 18 "FormDesk$Word" "length" "I") (by decide +kernel)) (fun _ h9 => h9) rfl dX2_isWellFormed_8 ?_
      refine lv_icmp_ge (tgt := 95) hx hb dX2_isWellFormed_11 (by decide) (fun hc4 => ?_) (fun hc4 => ?_)
      · have h := dm_t hc4 h
        refine lv_iload_n hx hb dX2_isWellFormed_95 rfl (lv_at hl 2 rfl) ?_
        refine lv_if_ne (tgt := 103) hx hb dX2_isWellFormed_96 (by decide) (fun hc5 => ?_) (fun hc5 => ?_)
        · have h := dm_f hc5 h
          refine lv_iconst (v := 0) hx hb dX2_isWellFormed_103 (by decide) ?_
          obtain hE0 := dm_i1 h
          subst hE0
          rw [hQQ]
          have hP9 := hP.sub (ws' := [(th, .inr (2, [.ref tqr, .ref tqo, .int tlen])), (tqr, .inl (cyI, 40, .inl trow)), (tqo, .inl (cyI, 5, .inl topn))]) [0, 1, 2] rfl
          have hD9 := hD.sub (ws' := [(th, .inr (2, [.ref tqr, .ref tqo, .int tlen])), (tqr, .inl (cyI, 40, .inl trow)), (tqo, .inl (cyI, 5, .inl topn))]) [0, 1, 2] (by decide) rfl
          exact W.zret (v := (0 : Int32)) hx hb hr rfl (fun t ht hW => ⟨⟨(0 : Int32), (), rfl, rfl, by rw [ht]; exact hP9, hD9⟩, hS.F ht⟩) hS.2.2 dX2_isWellFormed_104
        · have h := dm_t hc5 h
          refine lv_iconst (v := 1) hx hb dX2_isWellFormed_99 (by decide) ?_
          refine lv_goto (tgt := 104) hx hb dX2_isWellFormed_100 (by decide) ?_
          obtain hE0 := dm_i1 h
          subst hE0
          rw [hQQ]
          have hP9 := hP.sub (ws' := [(th, .inr (2, [.ref tqr, .ref tqo, .int tlen])), (tqr, .inl (cyI, 40, .inl trow)), (tqo, .inl (cyI, 5, .inl topn))]) [0, 1, 2] rfl
          have hD9 := hD.sub (ws' := [(th, .inr (2, [.ref tqr, .ref tqo, .int tlen])), (tqr, .inl (cyI, 40, .inl trow)), (tqo, .inl (cyI, 5, .inl topn))]) [0, 1, 2] (by decide) rfl
          exact W.zret (v := (1 : Int32)) hx hb hr rfl (fun t ht hW => ⟨⟨(1 : Int32), (), rfl, rfl, by rw [ht]; exact hP9, hD9⟩, hS.F ht⟩) hS.2.2 dX2_isWellFormed_104
      · have h := dm_f hc4 h
        refine lv_aload_n hx hb dX2_isWellFormed_14 rfl (lv_at hl 3 rfl) ?_
        refine va_get (D := (dC, dI)) (ci := 2) (v := .ref tqr) (C := RX2) (T := TX2) (N := 3) hx hb hts hinX2 hown hK hP 0 rfl rfl 0 (by decide) (hts (.fieldLink RX2 9 "FormDesk$Word" "row" "[I") (by decide +kernel)) (fun _ h9 => h9) rfl dX2_isWellFormed_15 ?_
        refine lv_iload_n hx hb dX2_isWellFormed_18 rfl (lv_at hl 0 rfl) ?_
        obtain ⟨hn6, h⟩ := dm_gs h
        refine va_iald hx hb hK hP 1 0 rfl rfl hn6 dX2_isWellFormed_19 ?_
        refine lv_topi (fun x7 ex7 => ?_)
        have h := dm_lu ex7 h
        refine lv_istore (lv' := [(4, .int x7), (3, .int v1), (2, .int v2), (1, .int v3), (0, .ref th)]) hx hb dX2_isWellFormed_20 hl (by decide) rfl (fun ls hl => ?_)
        refine lv_iload hx hb dX2_isWellFormed_22 (lv_at hl 0 rfl) ?_
        refine lv_bipush (v := 40) hx hb dX2_isWellFormed_24 (by decide) ?_
        refine lv_icmp_ne (tgt := 35) hx hb dX2_isWellFormed_26 (by decide) (fun hc8 => ?_) (fun hc8 => ?_)
        · have h := dm_f hc8 h
          refine lv_iload hx hb dX2_isWellFormed_35 (lv_at hl 0 rfl) ?_
          refine lv_bipush (v := 41) hx hb dX2_isWellFormed_37 (by decide) ?_
          refine lv_icmp_ne (tgt := 45) hx hb dX2_isWellFormed_39 (by decide) (fun hc9 => ?_) (fun hc9 => ?_)
          · have h := dm_f hc9 h
            refine lv_iload_n hx hb dX2_isWellFormed_45 rfl (lv_at hl 3 rfl) ?_
            refine lv_if_lt (tgt := 66) hx hb dX2_isWellFormed_46 (by decide) (fun hc10 => ?_) (fun hc10 => ?_)
            · have h := dm_t hc10 h
              refine lv_iconst (v := 0) hx hb dX2_isWellFormed_66 (by decide) ?_
              obtain hE0 := dm_i1 h
              subst hE0
              rw [hQQ]
              have hP9 := hP.sub (ws' := [(th, .inr (2, [.ref tqr, .ref tqo, .int tlen])), (tqr, .inl (cyI, 40, .inl trow)), (tqo, .inl (cyI, 5, .inl topn))]) [0, 1, 2] rfl
              have hD9 := hD.sub (ws' := [(th, .inr (2, [.ref tqr, .ref tqo, .int tlen])), (tqr, .inl (cyI, 40, .inl trow)), (tqo, .inl (cyI, 5, .inl topn))]) [0, 1, 2] (by decide) rfl
              exact W.zret (v := (0 : Int32)) hx hb hr rfl (fun t ht hW => ⟨⟨(0 : Int32), (), rfl, rfl, by rw [ht]; exact hP9, hD9⟩, hS.F ht⟩) hS.2.2 dX2_isWellFormed_67
            · have h := dm_f hc10 h
              refine lv_iload_n hx hb dX2_isWellFormed_49 rfl (lv_at hl 3 rfl) ?_
              refine lv_iconst (v := 4) hx hb dX2_isWellFormed_50 (by decide) ?_
              refine lv_icmp_gt (tgt := 66) hx hb dX2_isWellFormed_51 (by decide) (fun hc11 => ?_) (fun hc11 => ?_)
              · have h := dm_t hc11 h
                refine lv_iconst (v := 0) hx hb dX2_isWellFormed_66 (by decide) ?_
                obtain hE0 := dm_i1 h
                subst hE0
                rw [hQQ]
                have hP9 := hP.sub (ws' := [(th, .inr (2, [.ref tqr, .ref tqo, .int tlen])), (tqr, .inl (cyI, 40, .inl trow)), (tqo, .inl (cyI, 5, .inl topn))]) [0, 1, 2] rfl
                have hD9 := hD.sub (ws' := [(th, .inr (2, [.ref tqr, .ref tqo, .int tlen])), (tqr, .inl (cyI, 40, .inl trow)), (tqo, .inl (cyI, 5, .inl topn))]) [0, 1, 2] (by decide) rfl
                exact W.zret (v := (0 : Int32)) hx hb hr rfl (fun t ht hW => ⟨⟨(0 : Int32), (), rfl, rfl, by rw [ht]; exact hP9, hD9⟩, hS.F ht⟩) hS.2.2 dX2_isWellFormed_67
              · have h := dm_f hc11 h
                refine lv_iload hx hb dX2_isWellFormed_54 (lv_at hl 0 rfl) ?_
                obtain ⟨r12, hk13, h⟩ := dm_b1s h
                refine mc_i (wr := [(th, .inr (2, [.ref tqr, .ref tqo, .int tlen])), (tqr, .inl (cyI, 40, .inl trow)), (tqo, .inl (cyI, 5, .inl topn))]) (va_runS (As := [.int x7]) (rest := []) ⟨hx, hb, hml, hown, hts⟩ (c_X2_isPower l dC dI cyI cyJ cyC H.size x7 r12 hk13) (va_cwS 1 hts gX2_isWellFormed_X2_isPower rfl rfl rfl (by decide +kernel) ⟨(Nat.le_of_ble_eq_true rfl), (Nat.le_of_ble_eq_true rfl)⟩) (mc_preS hK (hP.sub (ws' := []) [] rfl) (hD.sub (ws' := []) [] (by decide) rfl) hnw) rfl rfl hl.1 rfl (lv_room (Nat.le_of_ble_eq_true rfl)) dX2_isWellFormed_56 ⟨Nat.zero_le _, Nat.zero_le _⟩) hP hD hS hA [] [0, 1, 2] rfl rfl rfl (by decide) (fun H locs hP hD hS => ?_)
                have hP : va_P (dC, dI) vwCl [(th, .inr (2, [.ref tqr, .ref tqo, .int tlen])), (tqr, .inl (cyI, 40, .inl trow)), (tqo, .inl (cyI, 5, .inl topn))] H := hP
                have hD : va_D A [(th, .inr (2, [.ref tqr, .ref tqo, .int tlen])), (tqr, .inl (cyI, 40, .inl trow)), (tqo, .inl (cyI, 5, .inl topn))] := hD
                refine lv_if_eq (tgt := 68) hx hb dX2_isWellFormed_59 (by decide) (fun hc14 => ?_) (fun hc14 => ?_)
                · have h := dm_t hc14 h
                  refine lv_iload hx hb dX2_isWellFormed_68 (lv_at hl 0 rfl) ?_
                  refine lv_bipush (v := 40) hx hb dX2_isWellFormed_70 (by decide) ?_
                  refine lv_icmp_eq (tgt := 87) hx hb dX2_isWellFormed_72 (by decide) (fun hc15 => ?_) (fun hc15 => ?_)
                  · have h := dm_t hc15 h
                    refine lv_iconst (v := 0) hx hb dX2_isWellFormed_87 (by decide) ?_
                    refine lv_istore_n (lv' := [(2, .int (0 : Int32)), (4, .int x7), (3, .int v1), (1, .int v3), (0, .ref th)]) hx hb dX2_isWellFormed_88 rfl hl (by decide) rfl (fun ls hl => ?_)
                    obtain ⟨x16, ex16⟩ : ∃ y : Int32, y = (v1 + (1 : Int32)) := ⟨_, rfl⟩
                    have h := dm_lu ex16 h
                    refine lv_iinc (v := x16) (lv' := [(3, .int x16), (2, .int (0 : Int32)), (4, .int x7), (1, .int v3), (0, .ref th)]) hx hb dX2_isWellFormed_89 hl (k := 2) rfl (by rw [ex16]; rfl) (by decide) rfl (fun ls hl => ?_)
                    refine lv_goto (tgt := 6) hx hb dX2_isWellFormed_92 (by decide) ?_
                    exact ih6 x16 (0 : Int32) v3 H _ ls h (hP.sub [0, 1, 2] rfl) (hD.sub [0, 1, 2] (by decide) rfl) hS (lv_sub hl [0, 1, 3, 4] rfl)
                  · have h := dm_f hc15 h
                    refine lv_iload hx hb dX2_isWellFormed_75 (lv_at hl 0 rfl) ?_
                    obtain ⟨r17, hk18, h⟩ := dm_b1s h
                    refine mc_i (wr := [(th, .inr (2, [.ref tqr, .ref tqo, .int tlen])), (tqr, .inl (cyI, 40, .inl trow)), (tqo, .inl (cyI, 5, .inl topn))]) (va_runS (As := [.int x7]) (rest := []) ⟨hx, hb, hml, hown, hts⟩ (c_X2_isPower l dC dI cyI cyJ cyC H.size x7 r17 hk18) (va_cwS 1 hts gX2_isWellFormed_X2_isPower rfl rfl rfl (by decide +kernel) ⟨(Nat.le_of_ble_eq_true rfl), (Nat.le_of_ble_eq_true rfl)⟩) (mc_preS hK (hP.sub (ws' := []) [] rfl) (hD.sub (ws' := []) [] (by decide) rfl) hnw) rfl rfl hl.1 rfl (lv_room (Nat.le_of_ble_eq_true rfl)) dX2_isWellFormed_77 ⟨Nat.zero_le _, Nat.zero_le _⟩) hP hD hS hA [] [0, 1, 2] rfl rfl rfl (by decide) (fun H locs hP hD hS => ?_)
                    have hP : va_P (dC, dI) vwCl [(th, .inr (2, [.ref tqr, .ref tqo, .int tlen])), (tqr, .inl (cyI, 40, .inl trow)), (tqo, .inl (cyI, 5, .inl topn))] H := hP
                    have hD : va_D A [(th, .inr (2, [.ref tqr, .ref tqo, .int tlen])), (tqr, .inl (cyI, 40, .inl trow)), (tqo, .inl (cyI, 5, .inl topn))] := hD
                    refine lv_if_ne (tgt := 87) hx hb dX2_isWellFormed_80 (by decide) (fun hc19 => ?_) (fun hc19 => ?_)
                    · have h := dm_f hc19 h
                      refine lv_iconst (v := 0) hx hb dX2_isWellFormed_87 (by decide) ?_
                      refine lv_istore_n (lv' := [(2, .int (0 : Int32)), (4, .int x7), (3, .int v1), (1, .int v3), (0, .ref th)]) hx hb dX2_isWellFormed_88 rfl hl (by decide) rfl (fun ls hl => ?_)
                      obtain ⟨x20, ex20⟩ : ∃ y : Int32, y = (v1 + (1 : Int32)) := ⟨_, rfl⟩
                      have h := dm_lu ex20 h
                      refine lv_iinc (v := x20) (lv' := [(3, .int x20), (2, .int (0 : Int32)), (4, .int x7), (1, .int v3), (0, .ref th)]) hx hb dX2_isWellFormed_89 hl (k := 2) rfl (by rw [ex20]; rfl) (by decide) rfl (fun ls hl => ?_)
                      refine lv_goto (tgt := 6) hx hb dX2_isWellFormed_92 (by decide) ?_
                      exact ih6 x20 (0 : Int32) v3 H _ ls h (hP.sub [0, 1, 2] rfl) (hD.sub [0, 1, 2] (by decide) rfl) hS (lv_sub hl [0, 1, 3, 4] rfl)
                    · have h := dm_t hc19 h
                      refine lv_iconst (v := 1) hx hb dX2_isWellFormed_83 (by decide) ?_
                      refine lv_goto (tgt := 88) hx hb dX2_isWellFormed_84 (by decide) ?_
                      refine lv_istore_n (lv' := [(2, .int (1 : Int32)), (4, .int x7), (3, .int v1), (1, .int v3), (0, .ref th)]) hx hb dX2_isWellFormed_88 rfl hl (by decide) rfl (fun ls hl => ?_)
                      obtain ⟨x21, ex21⟩ : ∃ y : Int32, y = (v1 + (1 : Int32)) := ⟨_, rfl⟩
                      have h := dm_lu ex21 h
                      refine lv_iinc (v := x21) (lv' := [(3, .int x21), (2, .int (1 : Int32)), (4, .int x7), (1, .int v3), (0, .ref th)]) hx hb dX2_isWellFormed_89 hl (k := 2) rfl (by rw [ex21]; rfl) (by decide) rfl (fun ls hl => ?_)
                      refine lv_goto (tgt := 6) hx hb dX2_isWellFormed_92 (by decide) ?_
                      exact ih6 x21 (1 : Int32) v3 H _ ls h (hP.sub [0, 1, 2] rfl) (hD.sub [0, 1, 2] (by decide) rfl) hS (lv_sub hl [0, 1, 3, 4] rfl)
                · have h := dm_f hc14 h
                  refine lv_iload_n hx hb dX2_isWellFormed_62 rfl (lv_at hl 2 rfl) ?_
                  refine lv_if_ne (tgt := 68) hx hb dX2_isWellFormed_63 (by decide) (fun hc22 => ?_) (fun hc22 => ?_)
                  · have h := dm_f hc22 h
                    refine lv_iload hx hb dX2_isWellFormed_68 (lv_at hl 0 rfl) ?_
                    refine lv_bipush (v := 40) hx hb dX2_isWellFormed_70 (by decide) ?_
                    refine lv_icmp_eq (tgt := 87) hx hb dX2_isWellFormed_72 (by decide) (fun hc23 => ?_) (fun hc23 => ?_)
                    · have h := dm_t hc23 h
                      refine lv_iconst (v := 0) hx hb dX2_isWellFormed_87 (by decide) ?_
                      refine lv_istore_n (lv' := [(2, .int (0 : Int32)), (4, .int x7), (3, .int v1), (1, .int v3), (0, .ref th)]) hx hb dX2_isWellFormed_88 rfl hl (by decide) rfl (fun ls hl => ?_)
                      obtain ⟨x24, ex24⟩ : ∃ y : Int32, y = (v1 + (1 : Int32)) := ⟨_, rfl⟩
                      have h := dm_lu ex24 h
                      refine lv_iinc (v := x24) (lv' := [(3, .int x24), (2, .int (0 : Int32)), (4, .int x7), (1, .int v3), (0, .ref th)]) hx hb dX2_isWellFormed_89 hl (k := 2) rfl (by rw [ex24]; rfl) (by decide) rfl (fun ls hl => ?_)
                      refine lv_goto (tgt := 6) hx hb dX2_isWellFormed_92 (by decide) ?_
                      exact ih6 x24 (0 : Int32) v3 H _ ls h (hP.sub [0, 1, 2] rfl) (hD.sub [0, 1, 2] (by decide) rfl) hS (lv_sub hl [0, 1, 3, 4] rfl)
                    · have h := dm_f hc23 h
                      refine lv_iload hx hb dX2_isWellFormed_75 (lv_at hl 0 rfl) ?_
                      obtain ⟨r25, hk26, h⟩ := dm_b1s h
                      refine mc_i (wr := [(th, .inr (2, [.ref tqr, .ref tqo, .int tlen])), (tqr, .inl (cyI, 40, .inl trow)), (tqo, .inl (cyI, 5, .inl topn))]) (va_runS (As := [.int x7]) (rest := []) ⟨hx, hb, hml, hown, hts⟩ (c_X2_isPower l dC dI cyI cyJ cyC H.size x7 r25 hk26) (va_cwS 1 hts gX2_isWellFormed_X2_isPower rfl rfl rfl (by decide +kernel) ⟨(Nat.le_of_ble_eq_true rfl), (Nat.le_of_ble_eq_true rfl)⟩) (mc_preS hK (hP.sub (ws' := []) [] rfl) (hD.sub (ws' := []) [] (by decide) rfl) hnw) rfl rfl hl.1 rfl (lv_room (Nat.le_of_ble_eq_true rfl)) dX2_isWellFormed_77 ⟨Nat.zero_le _, Nat.zero_le _⟩) hP hD hS hA [] [0, 1, 2] rfl rfl rfl (by decide) (fun H locs hP hD hS => ?_)
                      have hP : va_P (dC, dI) vwCl [(th, .inr (2, [.ref tqr, .ref tqo, .int tlen])), (tqr, .inl (cyI, 40, .inl trow)), (tqo, .inl (cyI, 5, .inl topn))] H := hP
                      have hD : va_D A [(th, .inr (2, [.ref tqr, .ref tqo, .int tlen])), (tqr, .inl (cyI, 40, .inl trow)), (tqo, .inl (cyI, 5, .inl topn))] := hD
                      refine lv_if_ne (tgt := 87) hx hb dX2_isWellFormed_80 (by decide) (fun hc27 => ?_) (fun hc27 => ?_)
                      · have h := dm_f hc27 h
                        refine lv_iconst (v := 0) hx hb dX2_isWellFormed_87 (by decide) ?_
                        refine lv_istore_n (lv' := [(2, .int (0 : Int32)), (4, .int x7), (3, .int v1), (1, .int v3), (0, .ref th)]) hx hb dX2_isWellFormed_88 rfl hl (by decide) rfl (fun ls hl => ?_)
                        obtain ⟨x28, ex28⟩ : ∃ y : Int32, y = (v1 + (1 : Int32)) := ⟨_, rfl⟩
                        have h := dm_lu ex28 h
                        refine lv_iinc (v := x28) (lv' := [(3, .int x28), (2, .int (0 : Int32)), (4, .int x7), (1, .int v3), (0, .ref th)]) hx hb dX2_isWellFormed_89 hl (k := 2) rfl (by rw [ex28]; rfl) (by decide) rfl (fun ls hl => ?_)
                        refine lv_goto (tgt := 6) hx hb dX2_isWellFormed_92 (by decide) ?_
                        exact ih6 x28 (0 : Int32) v3 H _ ls h (hP.sub [0, 1, 2] rfl) (hD.sub [0, 1, 2] (by decide) rfl) hS (lv_sub hl [0, 1, 3, 4] rfl)
                      · have h := dm_t hc27 h
                        refine lv_iconst (v := 1) hx hb dX2_isWellFormed_83 (by decide) ?_
                        refine lv_goto (tgt := 88) hx hb dX2_isWellFormed_84 (by decide) ?_
                        refine lv_istore_n (lv' := [(2, .int (1 : Int32)), (4, .int x7), (3, .int v1), (1, .int v3), (0, .ref th)]) hx hb dX2_isWellFormed_88 rfl hl (by decide) rfl (fun ls hl => ?_)
                        obtain ⟨x29, ex29⟩ : ∃ y : Int32, y = (v1 + (1 : Int32)) := ⟨_, rfl⟩
                        have h := dm_lu ex29 h
                        refine lv_iinc (v := x29) (lv' := [(3, .int x29), (2, .int (1 : Int32)), (4, .int x7), (1, .int v3), (0, .ref th)]) hx hb dX2_isWellFormed_89 hl (k := 2) rfl (by rw [ex29]; rfl) (by decide) rfl (fun ls hl => ?_)
                        refine lv_goto (tgt := 6) hx hb dX2_isWellFormed_92 (by decide) ?_
                        exact ih6 x29 (1 : Int32) v3 H _ ls h (hP.sub [0, 1, 2] rfl) (hD.sub [0, 1, 2] (by decide) rfl) hS (lv_sub hl [0, 1, 3, 4] rfl)
                  · have h := dm_t hc22 h
                    refine lv_iconst (v := 0) hx hb dX2_isWellFormed_66 (by decide) ?_
                    obtain hE0 := dm_i1 h
                    subst hE0
                    rw [hQQ]
                    have hP9 := hP.sub (ws' := [(th, .inr (2, [.ref tqr, .ref tqo, .int tlen])), (tqr, .inl (cyI, 40, .inl trow)), (tqo, .inl (cyI, 5, .inl topn))]) [0, 1, 2] rfl
                    have hD9 := hD.sub (ws' := [(th, .inr (2, [.ref tqr, .ref tqo, .int tlen])), (tqr, .inl (cyI, 40, .inl trow)), (tqo, .inl (cyI, 5, .inl topn))]) [0, 1, 2] (by decide) rfl
                    exact W.zret (v := (0 : Int32)) hx hb hr rfl (fun t ht hW => ⟨⟨(0 : Int32), (), rfl, rfl, by rw [ht]; exact hP9, hD9⟩, hS.F ht⟩) hS.2.2 dX2_isWellFormed_67
          · have h := dm_t hc9 h
            obtain ⟨x30, ex30⟩ : ∃ y : Int32, y = (v3 + (-1 : Int32)) := ⟨_, rfl⟩
            have h := dm_lu ex30 h
            refine lv_iinc (v := x30) (lv' := [(1, .int x30), (4, .int x7), (3, .int v1), (2, .int v2), (0, .ref th)]) hx hb dX2_isWellFormed_42 hl (k := 3) rfl (by rw [ex30]; rfl) (by decide) rfl (fun ls hl => ?_)
            refine lv_iload_n hx hb dX2_isWellFormed_45 rfl (lv_at hl 0 rfl) ?_
            refine lv_if_lt (tgt := 66) hx hb dX2_isWellFormed_46 (by decide) (fun hc31 => ?_) (fun hc31 => ?_)
            · have h := dm_t hc31 h
              refine lv_iconst (v := 0) hx hb dX2_isWellFormed_66 (by decide) ?_
              obtain hE0 := dm_i1 h
              subst hE0
              rw [hQQ]
              have hP9 := hP.sub (ws' := [(th, .inr (2, [.ref tqr, .ref tqo, .int tlen])), (tqr, .inl (cyI, 40, .inl trow)), (tqo, .inl (cyI, 5, .inl topn))]) [0, 1, 2] rfl
              have hD9 := hD.sub (ws' := [(th, .inr (2, [.ref tqr, .ref tqo, .int tlen])), (tqr, .inl (cyI, 40, .inl trow)), (tqo, .inl (cyI, 5, .inl topn))]) [0, 1, 2] (by decide) rfl
              exact W.zret (v := (0 : Int32)) hx hb hr rfl (fun t ht hW => ⟨⟨(0 : Int32), (), rfl, rfl, by rw [ht]; exact hP9, hD9⟩, hS.F ht⟩) hS.2.2 dX2_isWellFormed_67
            · have h := dm_f hc31 h
              refine lv_iload_n hx hb dX2_isWellFormed_49 rfl (lv_at hl 0 rfl) ?_
              refine lv_iconst (v := 4) hx hb dX2_isWellFormed_50 (by decide) ?_
              refine lv_icmp_gt (tgt := 66) hx hb dX2_isWellFormed_51 (by decide) (fun hc32 => ?_) (fun hc32 => ?_)
              · have h := dm_t hc32 h
                refine lv_iconst (v := 0) hx hb dX2_isWellFormed_66 (by decide) ?_
                obtain hE0 := dm_i1 h
                subst hE0
                rw [hQQ]
                have hP9 := hP.sub (ws' := [(th, .inr (2, [.ref tqr, .ref tqo, .int tlen])), (tqr, .inl (cyI, 40, .inl trow)), (tqo, .inl (cyI, 5, .inl topn))]) [0, 1, 2] rfl
                have hD9 := hD.sub (ws' := [(th, .inr (2, [.ref tqr, .ref tqo, .int tlen])), (tqr, .inl (cyI, 40, .inl trow)), (tqo, .inl (cyI, 5, .inl topn))]) [0, 1, 2] (by decide) rfl
                exact W.zret (v := (0 : Int32)) hx hb hr rfl (fun t ht hW => ⟨⟨(0 : Int32), (), rfl, rfl, by rw [ht]; exact hP9, hD9⟩, hS.F ht⟩) hS.2.2 dX2_isWellFormed_67
              · have h := dm_f hc32 h
                refine lv_iload hx hb dX2_isWellFormed_54 (lv_at hl 1 rfl) ?_
                obtain ⟨r33, hk34, h⟩ := dm_b1s h
                refine mc_i (wr := [(th, .inr (2, [.ref tqr, .ref tqo, .int tlen])), (tqr, .inl (cyI, 40, .inl trow)), (tqo, .inl (cyI, 5, .inl topn))]) (va_runS (As := [.int x7]) (rest := []) ⟨hx, hb, hml, hown, hts⟩ (c_X2_isPower l dC dI cyI cyJ cyC H.size x7 r33 hk34) (va_cwS 1 hts gX2_isWellFormed_X2_isPower rfl rfl rfl (by decide +kernel) ⟨(Nat.le_of_ble_eq_true rfl), (Nat.le_of_ble_eq_true rfl)⟩) (mc_preS hK (hP.sub (ws' := []) [] rfl) (hD.sub (ws' := []) [] (by decide) rfl) hnw) rfl rfl hl.1 rfl (lv_room (Nat.le_of_ble_eq_true rfl)) dX2_isWellFormed_56 ⟨Nat.zero_le _, Nat.zero_le _⟩) hP hD hS hA [] [0, 1, 2] rfl rfl rfl (by decide) (fun H locs hP hD hS => ?_)
                have hP : va_P (dC, dI) vwCl [(th, .inr (2, [.ref tqr, .ref tqo, .int tlen])), (tqr, .inl (cyI, 40, .inl trow)), (tqo, .inl (cyI, 5, .inl topn))] H := hP
                have hD : va_D A [(th, .inr (2, [.ref tqr, .ref tqo, .int tlen])), (tqr, .inl (cyI, 40, .inl trow)), (tqo, .inl (cyI, 5, .inl topn))] := hD
                refine lv_if_eq (tgt := 68) hx hb dX2_isWellFormed_59 (by decide) (fun hc35 => ?_) (fun hc35 => ?_)
                · have h := dm_t hc35 h
                  refine lv_iload hx hb dX2_isWellFormed_68 (lv_at hl 1 rfl) ?_
                  refine lv_bipush (v := 40) hx hb dX2_isWellFormed_70 (by decide) ?_
                  refine lv_icmp_eq (tgt := 87) hx hb dX2_isWellFormed_72 (by decide) (fun hc36 => ?_) (fun hc36 => ?_)
                  · have h := dm_t hc36 h
                    refine lv_iconst (v := 0) hx hb dX2_isWellFormed_87 (by decide) ?_
                    refine lv_istore_n (lv' := [(2, .int (0 : Int32)), (1, .int x30), (4, .int x7), (3, .int v1), (0, .ref th)]) hx hb dX2_isWellFormed_88 rfl hl (by decide) rfl (fun ls hl => ?_)
                    obtain ⟨x37, ex37⟩ : ∃ y : Int32, y = (v1 + (1 : Int32)) := ⟨_, rfl⟩
                    have h := dm_lu ex37 h
                    refine lv_iinc (v := x37) (lv' := [(3, .int x37), (2, .int (0 : Int32)), (1, .int x30), (4, .int x7), (0, .ref th)]) hx hb dX2_isWellFormed_89 hl (k := 3) rfl (by rw [ex37]; rfl) (by decide) rfl (fun ls hl => ?_)
                    refine lv_goto (tgt := 6) hx hb dX2_isWellFormed_92 (by decide) ?_
                    exact ih6 x37 (0 : Int32) x30 H _ ls h (hP.sub [0, 1, 2] rfl) (hD.sub [0, 1, 2] (by decide) rfl) hS (lv_sub hl [0, 1, 2, 4] rfl)
                  · have h := dm_f hc36 h
                    refine lv_iload hx hb dX2_isWellFormed_75 (lv_at hl 1 rfl) ?_
                    obtain ⟨r38, hk39, h⟩ := dm_b1s h
                    refine mc_i (wr := [(th, .inr (2, [.ref tqr, .ref tqo, .int tlen])), (tqr, .inl (cyI, 40, .inl trow)), (tqo, .inl (cyI, 5, .inl topn))]) (va_runS (As := [.int x7]) (rest := []) ⟨hx, hb, hml, hown, hts⟩ (c_X2_isPower l dC dI cyI cyJ cyC H.size x7 r38 hk39) (va_cwS 1 hts gX2_isWellFormed_X2_isPower rfl rfl rfl (by decide +kernel) ⟨(Nat.le_of_ble_eq_true rfl), (Nat.le_of_ble_eq_true rfl)⟩) (mc_preS hK (hP.sub (ws' := []) [] rfl) (hD.sub (ws' := []) [] (by decide) rfl) hnw) rfl rfl hl.1 rfl (lv_room (Nat.le_of_ble_eq_true rfl)) dX2_isWellFormed_77 ⟨Nat.zero_le _, Nat.zero_le _⟩) hP hD hS hA [] [0, 1, 2] rfl rfl rfl (by decide) (fun H locs hP hD hS => ?_)
                    have hP : va_P (dC, dI) vwCl [(th, .inr (2, [.ref tqr, .ref tqo, .int tlen])), (tqr, .inl (cyI, 40, .inl trow)), (tqo, .inl (cyI, 5, .inl topn))] H := hP
                    have hD : va_D A [(th, .inr (2, [.ref tqr, .ref tqo, .int tlen])), (tqr, .inl (cyI, 40, .inl trow)), (tqo, .inl (cyI, 5, .inl topn))] := hD
                    refine lv_if_ne (tgt := 87) hx hb dX2_isWellFormed_80 (by decide) (fun hc40 => ?_) (fun hc40 => ?_)
                    · have h := dm_f hc40 h
                      refine lv_iconst (v := 0) hx hb dX2_isWellFormed_87 (by decide) ?_
                      refine lv_istore_n (lv' := [(2, .int (0 : Int32)), (1, .int x30), (4, .int x7), (3, .int v1), (0, .ref th)]) hx hb dX2_isWellFormed_88 rfl hl (by decide) rfl (fun ls hl => ?_)
                      obtain ⟨x41, ex41⟩ : ∃ y : Int32, y = (v1 + (1 : Int32)) := ⟨_, rfl⟩
                      have h := dm_lu ex41 h
                      refine lv_iinc (v := x41) (lv' := [(3, .int x41), (2, .int (0 : Int32)), (1, .int x30), (4, .int x7), (0, .ref th)]) hx hb dX2_isWellFormed_89 hl (k := 3) rfl (by rw [ex41]; rfl) (by decide) rfl (fun ls hl => ?_)
                      refine lv_goto (tgt := 6) hx hb dX2_isWellFormed_92 (by decide) ?_
                      exact ih6 x41 (0 : Int32) x30 H _ ls h (hP.sub [0, 1, 2] rfl) (hD.sub [0, 1, 2] (by decide) rfl) hS (lv_sub hl [0, 1, 2, 4] rfl)
                    · have h := dm_t hc40 h
                      refine lv_iconst (v := 1) hx hb dX2_isWellFormed_83 (by decide) ?_
                      refine lv_goto (tgt := 88) hx hb dX2_isWellFormed_84 (by decide) ?_
                      refine lv_istore_n (lv' := [(2, .int (1 : Int32)), (1, .int x30), (4, .int x7), (3, .int v1), (0, .ref th)]) hx hb dX2_isWellFormed_88 rfl hl (by decide) rfl (fun ls hl => ?_)
                      obtain ⟨x42, ex42⟩ : ∃ y : Int32, y = (v1 + (1 : Int32)) := ⟨_, rfl⟩
                      have h := dm_lu ex42 h
                      refine lv_iinc (v := x42) (lv' := [(3, .int x42), (2, .int (1 : Int32)), (1, .int x30), (4, .int x7), (0, .ref th)]) hx hb dX2_isWellFormed_89 hl (k := 3) rfl (by rw [ex42]; rfl) (by decide) rfl (fun ls hl => ?_)
                      refine lv_goto (tgt := 6) hx hb dX2_isWellFormed_92 (by decide) ?_
                      exact ih6 x42 (1 : Int32) x30 H _ ls h (hP.sub [0, 1, 2] rfl) (hD.sub [0, 1, 2] (by decide) rfl) hS (lv_sub hl [0, 1, 2, 4] rfl)
                · have h := dm_f hc35 h
                  refine lv_iload_n hx hb dX2_isWellFormed_62 rfl (lv_at hl 3 rfl) ?_
                  refine lv_if_ne (tgt := 68) hx hb dX2_isWellFormed_63 (by decide) (fun hc43 => ?_) (fun hc43 => ?_)
                  · have h := dm_f hc43 h
                    refine lv_iload hx hb dX2_isWellFormed_68 (lv_at hl 1 rfl) ?_
                    refine lv_bipush (v := 40) hx hb dX2_isWellFormed_70 (by decide) ?_
                    refine lv_icmp_eq (tgt := 87) hx hb dX2_isWellFormed_72 (by decide) (fun hc44 => ?_) (fun hc44 => ?_)
                    · have h := dm_t hc44 h
                      refine lv_iconst (v := 0) hx hb dX2_isWellFormed_87 (by decide) ?_
                      refine lv_istore_n (lv' := [(2, .int (0 : Int32)), (1, .int x30), (4, .int x7), (3, .int v1), (0, .ref th)]) hx hb dX2_isWellFormed_88 rfl hl (by decide) rfl (fun ls hl => ?_)
                      obtain ⟨x45, ex45⟩ : ∃ y : Int32, y = (v1 + (1 : Int32)) := ⟨_, rfl⟩
                      have h := dm_lu ex45 h
                      refine lv_iinc (v := x45) (lv' := [(3, .int x45), (2, .int (0 : Int32)), (1, .int x30), (4, .int x7), (0, .ref th)]) hx hb dX2_isWellFormed_89 hl (k := 3) rfl (by rw [ex45]; rfl) (by decide) rfl (fun ls hl => ?_)
                      refine lv_goto (tgt := 6) hx hb dX2_isWellFormed_92 (by decide) ?_
                      exact ih6 x45 (0 : Int32) x30 H _ ls h (hP.sub [0, 1, 2] rfl) (hD.sub [0, 1, 2] (by decide) rfl) hS (lv_sub hl [0, 1, 2, 4] rfl)
                    · have h := dm_f hc44 h
                      refine lv_iload hx hb dX2_isWellFormed_75 (lv_at hl 1 rfl) ?_
                      obtain ⟨r46, hk47, h⟩ := dm_b1s h
                      refine mc_i (wr := [(th, .inr (2, [.ref tqr, .ref tqo, .int tlen])), (tqr, .inl (cyI, 40, .inl trow)), (tqo, .inl (cyI, 5, .inl topn))]) (va_runS (As := [.int x7]) (rest := []) ⟨hx, hb, hml, hown, hts⟩ (c_X2_isPower l dC dI cyI cyJ cyC H.size x7 r46 hk47) (va_cwS 1 hts gX2_isWellFormed_X2_isPower rfl rfl rfl (by decide +kernel) ⟨(Nat.le_of_ble_eq_true rfl), (Nat.le_of_ble_eq_true rfl)⟩) (mc_preS hK (hP.sub (ws' := []) [] rfl) (hD.sub (ws' := []) [] (by decide) rfl) hnw) rfl rfl hl.1 rfl (lv_room (Nat.le_of_ble_eq_true rfl)) dX2_isWellFormed_77 ⟨Nat.zero_le _, Nat.zero_le _⟩) hP hD hS hA [] [0, 1, 2] rfl rfl rfl (by decide) (fun H locs hP hD hS => ?_)
                      have hP : va_P (dC, dI) vwCl [(th, .inr (2, [.ref tqr, .ref tqo, .int tlen])), (tqr, .inl (cyI, 40, .inl trow)), (tqo, .inl (cyI, 5, .inl topn))] H := hP
                      have hD : va_D A [(th, .inr (2, [.ref tqr, .ref tqo, .int tlen])), (tqr, .inl (cyI, 40, .inl trow)), (tqo, .inl (cyI, 5, .inl topn))] := hD
                      refine lv_if_ne (tgt := 87) hx hb dX2_isWellFormed_80 (by decide) (fun hc48 => ?_) (fun hc48 => ?_)
                      · have h := dm_f hc48 h
                        refine lv_iconst (v := 0) hx hb dX2_isWellFormed_87 (by decide) ?_
                        refine lv_istore_n (lv' := [(2, .int (0 : Int32)), (1, .int x30), (4, .int x7), (3, .int v1), (0, .ref th)]) hx hb dX2_isWellFormed_88 rfl hl (by decide) rfl (fun ls hl => ?_)
                        obtain ⟨x49, ex49⟩ : ∃ y : Int32, y = (v1 + (1 : Int32)) := ⟨_, rfl⟩
                        have h := dm_lu ex49 h
                        refine lv_iinc (v := x49) (lv' := [(3, .int x49), (2, .int (0 : Int32)), (1, .int x30), (4, .int x7), (0, .ref th)]) hx hb dX2_isWellFormed_89 hl (k := 3) rfl (by rw [ex49]; rfl) (by decide) rfl (fun ls hl => ?_)
                        refine lv_goto (tgt := 6) hx hb dX2_isWellFormed_92 (by decide) ?_
                        exact ih6 x49 (0 : Int32) x30 H _ ls h (hP.sub [0, 1, 2] rfl) (hD.sub [0, 1, 2] (by decide) rfl) hS (lv_sub hl [0, 1, 2, 4] rfl)
                      · have h := dm_t hc48 h
                        refine lv_iconst (v := 1) hx hb dX2_isWellFormed_83 (by decide) ?_
                        refine lv_goto (tgt := 88) hx hb dX2_isWellFormed_84 (by decide) ?_
                        refine lv_istore_n (lv' := [(2, .int (1 : Int32)), (1, .int x30), (4, .int x7), (3, .int v1), (0, .ref th)]) hx hb dX2_isWellFormed_88 rfl hl (by decide) rfl (fun ls hl => ?_)
                        obtain ⟨x50, ex50⟩ : ∃ y : Int32, y = (v1 + (1 : Int32)) := ⟨_, rfl⟩
                        have h := dm_lu ex50 h
                        refine lv_iinc (v := x50) (lv' := [(3, .int x50), (2, .int (1 : Int32)), (1, .int x30), (4, .int x7), (0, .ref th)]) hx hb dX2_isWellFormed_89 hl (k := 3) rfl (by rw [ex50]; rfl) (by decide) rfl (fun ls hl => ?_)
                        refine lv_goto (tgt := 6) hx hb dX2_isWellFormed_92 (by decide) ?_
                        exact ih6 x50 (1 : Int32) x30 H _ ls h (hP.sub [0, 1, 2] rfl) (hD.sub [0, 1, 2] (by decide) rfl) hS (lv_sub hl [0, 1, 2, 4] rfl)
                  · have h := dm_t hc43 h
                    refine lv_iconst (v := 0) hx hb dX2_isWellFormed_66 (by decide) ?_
                    obtain hE0 := dm_i1 h
                    subst hE0
                    rw [hQQ]
                    have hP9 := hP.sub (ws' := [(th, .inr (2, [.ref tqr, .ref tqo, .int tlen])), (tqr, .inl (cyI, 40, .inl trow)), (tqo, .inl (cyI, 5, .inl topn))]) [0, 1, 2] rfl
                    have hD9 := hD.sub (ws' := [(th, .inr (2, [.ref tqr, .ref tqo, .int tlen])), (tqr, .inl (cyI, 40, .inl trow)), (tqo, .inl (cyI, 5, .inl topn))]) [0, 1, 2] (by decide) rfl
                    exact W.zret (v := (0 : Int32)) hx hb hr rfl (fun t ht hW => ⟨⟨(0 : Int32), (), rfl, rfl, by rw [ht]; exact hP9, hD9⟩, hS.F ht⟩) hS.2.2 dX2_isWellFormed_67
        · have h := dm_t hc8 h
          obtain ⟨x51, ex51⟩ : ∃ y : Int32, y = (v3 + (1 : Int32)) := ⟨_, rfl⟩
          have h := dm_lu ex51 h
          refine lv_iinc (v := x51) (lv' := [(1, .int x51), (4, .int x7), (3, .int v1), (2, .int v2), (0, .ref th)]) hx hb dX2_isWellFormed_29 hl (k := 3) rfl (by rw [ex51]; rfl) (by decide) rfl (fun ls hl => ?_)
          refine lv_goto (tgt := 45) hx hb dX2_isWellFormed_32 (by decide) ?_
          refine lv_iload_n hx hb dX2_isWellFormed_45 rfl (lv_at hl 0 rfl) ?_
          refine lv_if_lt (tgt := 66) hx hb dX2_isWellFormed_46 (by decide) (fun hc52 => ?_) (fun hc52 => ?_)
          · have h := dm_t hc52 h
            refine lv_iconst (v := 0) hx hb dX2_isWellFormed_66 (by decide) ?_
            obtain hE0 := dm_i1 h
            subst hE0
            rw [hQQ]
            have hP9 := hP.sub (ws' := [(th, .inr (2, [.ref tqr, .ref tqo, .int tlen])), (tqr, .inl (cyI, 40, .inl trow)), (tqo, .inl (cyI, 5, .inl topn))]) [0, 1, 2] rfl
            have hD9 := hD.sub (ws' := [(th, .inr (2, [.ref tqr, .ref tqo, .int tlen])), (tqr, .inl (cyI, 40, .inl trow)), (tqo, .inl (cyI, 5, .inl topn))]) [0, 1, 2] (by decide) rfl
            exact W.zret (v := (0 : Int32)) hx hb hr rfl (fun t ht hW => ⟨⟨(0 : Int32), (), rfl, rfl, by rw [ht]; exact hP9, hD9⟩, hS.F ht⟩) hS.2.2 dX2_isWellFormed_67
          · have h := dm_f hc52 h
            refine lv_iload_n hx hb dX2_isWellFormed_49 rfl (lv_at hl 0 rfl) ?_
            refine lv_iconst (v := 4) hx hb dX2_isWellFormed_50 (by decide) ?_
            refine lv_icmp_gt (tgt := 66) hx hb dX2_isWellFormed_51 (by decide) (fun hc53 => ?_) (fun hc53 => ?_)
            · have h := dm_t hc53 h
              refine lv_iconst (v := 0) hx hb dX2_isWellFormed_66 (by decide) ?_
              obtain hE0 := dm_i1 h
              subst hE0
              rw [hQQ]
              have hP9 := hP.sub (ws' := [(th, .inr (2, [.ref tqr, .ref tqo, .int tlen])), (tqr, .inl (cyI, 40, .inl trow)), (tqo, .inl (cyI, 5, .inl topn))]) [0, 1, 2] rfl
              have hD9 := hD.sub (ws' := [(th, .inr (2, [.ref tqr, .ref tqo, .int tlen])), (tqr, .inl (cyI, 40, .inl trow)), (tqo, .inl (cyI, 5, .inl topn))]) [0, 1, 2] (by decide) rfl
              exact W.zret (v := (0 : Int32)) hx hb hr rfl (fun t ht hW => ⟨⟨(0 : Int32), (), rfl, rfl, by rw [ht]; exact hP9, hD9⟩, hS.F ht⟩) hS.2.2 dX2_isWellFormed_67
            · have h := dm_f hc53 h
              refine lv_iload hx hb dX2_isWellFormed_54 (lv_at hl 1 rfl) ?_
              obtain ⟨r54, hk55, h⟩ := dm_b1s h
              refine mc_i (wr := [(th, .inr (2, [.ref tqr, .ref tqo, .int tlen])), (tqr, .inl (cyI, 40, .inl trow)), (tqo, .inl (cyI, 5, .inl topn))]) (va_runS (As := [.int x7]) (rest := []) ⟨hx, hb, hml, hown, hts⟩ (c_X2_isPower l dC dI cyI cyJ cyC H.size x7 r54 hk55) (va_cwS 1 hts gX2_isWellFormed_X2_isPower rfl rfl rfl (by decide +kernel) ⟨(Nat.le_of_ble_eq_true rfl), (Nat.le_of_ble_eq_true rfl)⟩) (mc_preS hK (hP.sub (ws' := []) [] rfl) (hD.sub (ws' := []) [] (by decide) rfl) hnw) rfl rfl hl.1 rfl (lv_room (Nat.le_of_ble_eq_true rfl)) dX2_isWellFormed_56 ⟨Nat.zero_le _, Nat.zero_le _⟩) hP hD hS hA [] [0, 1, 2] rfl rfl rfl (by decide) (fun H locs hP hD hS => ?_)
              have hP : va_P (dC, dI) vwCl [(th, .inr (2, [.ref tqr, .ref tqo, .int tlen])), (tqr, .inl (cyI, 40, .inl trow)), (tqo, .inl (cyI, 5, .inl topn))] H := hP
              have hD : va_D A [(th, .inr (2, [.ref tqr, .ref tqo, .int tlen])), (tqr, .inl (cyI, 40, .inl trow)), (tqo, .inl (cyI, 5, .inl topn))] := hD
              refine lv_if_eq (tgt := 68) hx hb dX2_isWellFormed_59 (by decide) (fun hc56 => ?_) (fun hc56 => ?_)
              · have h := dm_t hc56 h
                refine lv_iload hx hb dX2_isWellFormed_68 (lv_at hl 1 rfl) ?_
                refine lv_bipush (v := 40) hx hb dX2_isWellFormed_70 (by decide) ?_
                refine lv_icmp_eq (tgt := 87) hx hb dX2_isWellFormed_72 (by decide) (fun hc57 => ?_) (fun hc57 => ?_)
                · have h := dm_t hc57 h
                  refine lv_iconst (v := 0) hx hb dX2_isWellFormed_87 (by decide) ?_
                  refine lv_istore_n (lv' := [(2, .int (0 : Int32)), (1, .int x51), (4, .int x7), (3, .int v1), (0, .ref th)]) hx hb dX2_isWellFormed_88 rfl hl (by decide) rfl (fun ls hl => ?_)
                  obtain ⟨x58, ex58⟩ : ∃ y : Int32, y = (v1 + (1 : Int32)) := ⟨_, rfl⟩
                  have h := dm_lu ex58 h
                  refine lv_iinc (v := x58) (lv' := [(3, .int x58), (2, .int (0 : Int32)), (1, .int x51), (4, .int x7), (0, .ref th)]) hx hb dX2_isWellFormed_89 hl (k := 3) rfl (by rw [ex58]; rfl) (by decide) rfl (fun ls hl => ?_)
                  refine lv_goto (tgt := 6) hx hb dX2_isWellFormed_92 (by decide) ?_
                  exact ih6 x58 (0 : Int32) x51 H _ ls h (hP.sub [0, 1, 2] rfl) (hD.sub [0, 1, 2] (by decide) rfl) hS (lv_sub hl [0, 1, 2, 4] rfl)
                · have h := dm_f hc57 h
                  refine lv_iload hx hb dX2_isWellFormed_75 (lv_at hl 1 rfl) ?_
                  obtain ⟨r59, hk60, h⟩ := dm_b1s h
                  refine mc_i (wr := [(th, .inr (2, [.ref tqr, .ref tqo, .int tlen])), (tqr, .inl (cyI, 40, .inl trow)), (tqo, .inl (cyI, 5, .inl topn))]) (va_runS (As := [.int x7]) (rest := []) ⟨hx, hb, hml, hown, hts⟩ (c_X2_isPower l dC dI cyI cyJ cyC H.size x7 r59 hk60) (va_cwS 1 hts gX2_isWellFormed_X2_isPower rfl rfl rfl (by decide +kernel) ⟨(Nat.le_of_ble_eq_true rfl), (Nat.le_of_ble_eq_true rfl)⟩) (mc_preS hK (hP.sub (ws' := []) [] rfl) (hD.sub (ws' := []) [] (by decide) rfl) hnw) rfl rfl hl.1 rfl (lv_room (Nat.le_of_ble_eq_true rfl)) dX2_isWellFormed_77 ⟨Nat.zero_le _, Nat.zero_le _⟩) hP hD hS hA [] [0, 1, 2] rfl rfl rfl (by decide) (fun H locs hP hD hS => ?_)
                  have hP : va_P (dC, dI) vwCl [(th, .inr (2, [.ref tqr, .ref tqo, .int tlen])), (tqr, .inl (cyI, 40, .inl trow)), (tqo, .inl (cyI, 5, .inl topn))] H := hP
                  have hD : va_D A [(th, .inr (2, [.ref tqr, .ref tqo, .int tlen])), (tqr, .inl (cyI, 40, .inl trow)), (tqo, .inl (cyI, 5, .inl topn))] := hD
                  refine lv_if_ne (tgt := 87) hx hb dX2_isWellFormed_80 (by decide) (fun hc61 => ?_) (fun hc61 => ?_)
                  · have h := dm_f hc61 h
                    refine lv_iconst (v := 0) hx hb dX2_isWellFormed_87 (by decide) ?_
                    refine lv_istore_n (lv' := [(2, .int (0 : Int32)), (1, .int x51), (4, .int x7), (3, .int v1), (0, .ref th)]) hx hb dX2_isWellFormed_88 rfl hl (by decide) rfl (fun ls hl => ?_)
                    obtain ⟨x62, ex62⟩ : ∃ y : Int32, y = (v1 + (1 : Int32)) := ⟨_, rfl⟩
                    have h := dm_lu ex62 h
                    refine lv_iinc (v := x62) (lv' := [(3, .int x62), (2, .int (0 : Int32)), (1, .int x51), (4, .int x7), (0, .ref th)]) hx hb dX2_isWellFormed_89 hl (k := 3) rfl (by rw [ex62]; rfl) (by decide) rfl (fun ls hl => ?_)
                    refine lv_goto (tgt := 6) hx hb dX2_isWellFormed_92 (by decide) ?_
                    exact ih6 x62 (0 : Int32) x51 H _ ls h (hP.sub [0, 1, 2] rfl) (hD.sub [0, 1, 2] (by decide) rfl) hS (lv_sub hl [0, 1, 2, 4] rfl)
                  · have h := dm_t hc61 h
                    refine lv_iconst (v := 1) hx hb dX2_isWellFormed_83 (by decide) ?_
                    refine lv_goto (tgt := 88) hx hb dX2_isWellFormed_84 (by decide) ?_
                    refine lv_istore_n (lv' := [(2, .int (1 : Int32)), (1, .int x51), (4, .int x7), (3, .int v1), (0, .ref th)]) hx hb dX2_isWellFormed_88 rfl hl (by decide) rfl (fun ls hl => ?_)
                    obtain ⟨x63, ex63⟩ : ∃ y : Int32, y = (v1 + (1 : Int32)) := ⟨_, rfl⟩
                    have h := dm_lu ex63 h
                    refine lv_iinc (v := x63) (lv' := [(3, .int x63), (2, .int (1 : Int32)), (1, .int x51), (4, .int x7), (0, .ref th)]) hx hb dX2_isWellFormed_89 hl (k := 3) rfl (by rw [ex63]; rfl) (by decide) rfl (fun ls hl => ?_)
                    refine lv_goto (tgt := 6) hx hb dX2_isWellFormed_92 (by decide) ?_
                    exact ih6 x63 (1 : Int32) x51 H _ ls h (hP.sub [0, 1, 2] rfl) (hD.sub [0, 1, 2] (by decide) rfl) hS (lv_sub hl [0, 1, 2, 4] rfl)
              · have h := dm_f hc56 h
                refine lv_iload_n hx hb dX2_isWellFormed_62 rfl (lv_at hl 3 rfl) ?_
                refine lv_if_ne (tgt := 68) hx hb dX2_isWellFormed_63 (by decide) (fun hc64 => ?_) (fun hc64 => ?_)
                · have h := dm_f hc64 h
                  refine lv_iload hx hb dX2_isWellFormed_68 (lv_at hl 1 rfl) ?_
                  refine lv_bipush (v := 40) hx hb dX2_isWellFormed_70 (by decide) ?_
                  refine lv_icmp_eq (tgt := 87) hx hb dX2_isWellFormed_72 (by decide) (fun hc65 => ?_) (fun hc65 => ?_)
                  · have h := dm_t hc65 h
                    refine lv_iconst (v := 0) hx hb dX2_isWellFormed_87 (by decide) ?_
                    refine lv_istore_n (lv' := [(2, .int (0 : Int32)), (1, .int x51), (4, .int x7), (3, .int v1), (0, .ref th)]) hx hb dX2_isWellFormed_88 rfl hl (by decide) rfl (fun ls hl => ?_)
                    obtain ⟨x66, ex66⟩ : ∃ y : Int32, y = (v1 + (1 : Int32)) := ⟨_, rfl⟩
                    have h := dm_lu ex66 h
                    refine lv_iinc (v := x66) (lv' := [(3, .int x66), (2, .int (0 : Int32)), (1, .int x51), (4, .int x7), (0, .ref th)]) hx hb dX2_isWellFormed_89 hl (k := 3) rfl (by rw [ex66]; rfl) (by decide) rfl (fun ls hl => ?_)
                    refine lv_goto (tgt := 6) hx hb dX2_isWellFormed_92 (by decide) ?_
                    exact ih6 x66 (0 : Int32) x51 H _ ls h (hP.sub [0, 1, 2] rfl) (hD.sub [0, 1, 2] (by decide) rfl) hS (lv_sub hl [0, 1, 2, 4] rfl)
                  · have h := dm_f hc65 h
                    refine lv_iload hx hb dX2_isWellFormed_75 (lv_at hl 1 rfl) ?_
                    obtain ⟨r67, hk68, h⟩ := dm_b1s h
                    refine mc_i (wr := [(th, .inr (2, [.ref tqr, .ref tqo, .int tlen])), (tqr, .inl (cyI, 40, .inl trow)), (tqo, .inl (cyI, 5, .inl topn))]) (va_runS (As := [.int x7]) (rest := []) ⟨hx, hb, hml, hown, hts⟩ (c_X2_isPower l dC dI cyI cyJ cyC H.size x7 r67 hk68) (va_cwS 1 hts gX2_isWellFormed_X2_isPower rfl rfl rfl (by decide +kernel) ⟨(Nat.le_of_ble_eq_true rfl), (Nat.le_of_ble_eq_true rfl)⟩) (mc_preS hK (hP.sub (ws' := []) [] rfl) (hD.sub (ws' := []) [] (by decide) rfl) hnw) rfl rfl hl.1 rfl (lv_room (Nat.le_of_ble_eq_true rfl)) dX2_isWellFormed_77 ⟨Nat.zero_le _, Nat.zero_le _⟩) hP hD hS hA [] [0, 1, 2] rfl rfl rfl (by decide) (fun H locs hP hD hS => ?_)
                    have hP : va_P (dC, dI) vwCl [(th, .inr (2, [.ref tqr, .ref tqo, .int tlen])), (tqr, .inl (cyI, 40, .inl trow)), (tqo, .inl (cyI, 5, .inl topn))] H := hP
                    have hD : va_D A [(th, .inr (2, [.ref tqr, .ref tqo, .int tlen])), (tqr, .inl (cyI, 40, .inl trow)), (tqo, .inl (cyI, 5, .inl topn))] := hD
                    refine lv_if_ne (tgt := 87) hx hb dX2_isWellFormed_80 (by decide) (fun hc69 => ?_) (fun hc69 => ?_)
                    · have h := dm_f hc69 h
                      refine lv_iconst (v := 0) hx hb dX2_isWellFormed_87 (by decide) ?_
                      refine lv_istore_n (lv' := [(2, .int (0 : Int32)), (1, .int x51), (4, .int x7), (3, .int v1), (0, .ref th)]) hx hb dX2_isWellFormed_88 rfl hl (by decide) rfl (fun ls hl => ?_)
                      obtain ⟨x70, ex70⟩ : ∃ y : Int32, y = (v1 + (1 : Int32)) := ⟨_, rfl⟩
                      have h := dm_lu ex70 h
                      refine lv_iinc (v := x70) (lv' := [(3, .int x70), (2, .int (0 : Int32)), (1, .int x51), (4, .int x7), (0, .ref th)]) hx hb dX2_isWellFormed_89 hl (k := 3) rfl (by rw [ex70]; rfl) (by decide) rfl (fun ls hl => ?_)
                      refine lv_goto (tgt := 6) hx hb dX2_isWellFormed_92 (by decide) ?_
                      exact ih6 x70 (0 : Int32) x51 H _ ls h (hP.sub [0, 1, 2] rfl) (hD.sub [0, 1, 2] (by decide) rfl) hS (lv_sub hl [0, 1, 2, 4] rfl)
                    · have h := dm_t hc69 h
                      refine lv_iconst (v := 1) hx hb dX2_isWellFormed_83 (by decide) ?_
                      refine lv_goto (tgt := 88) hx hb dX2_isWellFormed_84 (by decide) ?_
                      refine lv_istore_n (lv' := [(2, .int (1 : Int32)), (1, .int x51), (4, .int x7), (3, .int v1), (0, .ref th)]) hx hb dX2_isWellFormed_88 rfl hl (by decide) rfl (fun ls hl => ?_)
                      obtain ⟨x71, ex71⟩ : ∃ y : Int32, y = (v1 + (1 : Int32)) := ⟨_, rfl⟩
                      have h := dm_lu ex71 h
                      refine lv_iinc (v := x71) (lv' := [(3, .int x71), (2, .int (1 : Int32)), (1, .int x51), (4, .int x7), (0, .ref th)]) hx hb dX2_isWellFormed_89 hl (k := 3) rfl (by rw [ex71]; rfl) (by decide) rfl (fun ls hl => ?_)
                      refine lv_goto (tgt := 6) hx hb dX2_isWellFormed_92 (by decide) ?_
                      exact ih6 x71 (1 : Int32) x51 H _ ls h (hP.sub [0, 1, 2] rfl) (hD.sub [0, 1, 2] (by decide) rfl) hS (lv_sub hl [0, 1, 2, 4] rfl)
                · have h := dm_t hc64 h
                  refine lv_iconst (v := 0) hx hb dX2_isWellFormed_66 (by decide) ?_
                  obtain hE0 := dm_i1 h
                  subst hE0
                  rw [hQQ]
                  have hP9 := hP.sub (ws' := [(th, .inr (2, [.ref tqr, .ref tqo, .int tlen])), (tqr, .inl (cyI, 40, .inl trow)), (tqo, .inl (cyI, 5, .inl topn))]) [0, 1, 2] rfl
                  have hD9 := hD.sub (ws' := [(th, .inr (2, [.ref tqr, .ref tqo, .int tlen])), (tqr, .inl (cyI, 40, .inl trow)), (tqo, .inl (cyI, 5, .inl topn))]) [0, 1, 2] (by decide) rfl
                  exact W.zret (v := (0 : Int32)) hx hb hr rfl (fun t ht hW => ⟨⟨(0 : Int32), (), rfl, rfl, by rw [ht]; exact hP9, hD9⟩, hS.F ht⟩) hS.2.2 dX2_isWellFormed_67
  exact L6 100000 (0 : Int32) (0 : Int32) (0 : Int32) s.heap _ ls h hP hD hS hl
