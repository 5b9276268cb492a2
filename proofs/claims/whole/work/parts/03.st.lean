def f_J9_floorDiv_7cf53 (p0 : Int32) (p1 : Int32) : Option (Int32) :=
  dm_g (¬ p1 = 0) <|
  dm_let (p0 / p1) fun x2 =>
  if 0 ≤ (p0 ^^^ p1) then
    some x2
  else
    if (x2 * p1) = p0 then
      some x2
    else
      some (x2 - (1 : Int32))
set_option maxHeartbeats 4000000 in
set_option maxRecDepth 100000 in
theorem c_J9_floorDiv_7cf53 (l : Launch) (dC : Nat → ClassId) (dI : Nat → Nat → Nat) (cyI cyJ cyC : ClassId) (sz : Nat)  (p0 : Int32) (p1 : Int32) (rv : Int32) (hf : f_J9_floorDiv_7cf53 p0 p1 = some rv) : Met l yJ9_floorDiv_7cf53 wsJ9_floorDiv_7cf53 { frames := 0, cells := 0, slots := 0, locals := 0 } (va_Pc [.int p0, .int p1] (mc_Pre (dC, dI) (mc_tys cyI cyJ cyC) [] sz)) (va_Qi (fun r (_ : Unit) => r = rv) (fun _ t => mc_Post (dC, dI) (va_A [] sz) [] t) (va_A [] sz)) 0 0 (va_A [] sz) := by
  refine va_MetF (cc := cJ9_floorDiv_7cf53) (maxL := 3) (ret := (some .int)) (by decide +kernel) rfl ?_
  intro p e s m args below meth c s₁ B hml hv
  obtain ⟨rfl, hsz, hP, hK, hD0, hnw⟩ := hv
  have hx := B.exec
  have hb := B.bytes
  have hr := B.returns
  have hts := atoms_spec (ws := wsJ9_floorDiv_7cf53) B.pre
  have hown : s.vm.findClass RJ9 = some m.cls := findClass_of_methodNamed B.named
  have hlocks := B.notSynchronized
  subst hsz
  have hD := hD0.self (sz := s.heap.size)
  generalize hAe : va_A [] s.heap.size = A at hD ⊢
  have hA : ∀ q : Nat, s.heap.size ≤ q → A q := fun q h => by rw [← hAe]; exact Or.inr h
  have hS : va_S A s.heap s.heap [] := va_S.rf
  have hP : va_P (dC, dI) vwCl [] s.heap := hP
  have hl := lv_entry ([.int p0, .int p1]) (n := 3) (Nat.le_of_ble_eq_true rfl)
  rw [lg_entry_eq]
  generalize (lg_sl ([.int p0, .int p1]) ++ List.replicate (3 - (lg_sl ([.int p0, .int p1])).length) Slot.unset).toArray = ls at hl ⊢
  have hl : lv_has ls 3 [(0, .int p0), (1, .int p1)] := hl
  obtain ⟨QQ, hQQ⟩ : ∃ Q, Q = MQ below (va_Qi (fun r (_ : Unit) => r = rv) (fun _ t => mc_Post (dC, dI) A [] t) A) ([Value.int p0, Value.int p1] : List Value).toArray s 0 0 A := ⟨_, rfl⟩
  rw [← hQQ]
  have h := hf
  unfold f_J9_floorDiv_7cf53 at h
  refine lv_iload_n hx hb dJ9_floorDiv_7cf53_0 rfl (lv_at hl 0 rfl) ?_
  refine lv_iload_n hx hb dJ9_floorDiv_7cf53_1 rfl (lv_at hl 1 rfl) ?_
  obtain ⟨hn1, h⟩ := dm_gs h
  refine lv_idiv hx hb dJ9_floorDiv_7cf53_2 hn1 ?_
  refine lv_topi (fun x2 ex2 => ?_)
  have h := dm_lu ex2 h
  refine lv_istore_n (lv' := [(2, .int x2), (0, .int p0), (1, .int p1)]) hx hb dJ9_floorDiv_7cf53_3 rfl hl (by decide) rfl (fun ls hl => ?_)
  refine lv_iload_n hx hb dJ9_floorDiv_7cf53_4 rfl (lv_at hl 1 rfl) ?_
  refine lv_iload_n hx hb dJ9_floorDiv_7cf53_5 rfl (lv_at hl 2 rfl) ?_
  refine lv_ixor hx hb dJ9_floorDiv_7cf53_6 ?_
  refine lv_if_ge (tgt := 21) hx hb dJ9_floorDiv_7cf53_7 (by decide) (fun hc3 => ?_) (fun hc3 => ?_)
  · have h := dm_t hc3 h
    refine lv_iload_n hx hb dJ9_floorDiv_7cf53_21 rfl (lv_at hl 0 rfl) ?_
    obtain hE0 := dm_i1 h
    subst hE0
    rw [hQQ]
    have hP9 := hP.sub (ws' := []) [] rfl
    have hD9 := hD.sub (ws' := []) [] (by decide) rfl
    exact W.iret (v := x2) hx hb hr (fun t ht hW => ⟨⟨x2, (), rfl, rfl, by rw [ht]; exact hP9, hD9⟩, hS.F ht⟩) hS.2.2 dJ9_floorDiv_7cf53_22
  · have h := dm_f hc3 h
    refine lv_iload_n hx hb dJ9_floorDiv_7cf53_10 rfl (lv_at hl 0 rfl) ?_
    refine lv_iload_n hx hb dJ9_floorDiv_7cf53_11 rfl (lv_at hl 2 rfl) ?_
    refine lv_imul hx hb dJ9_floorDiv_7cf53_12 ?_
    refine lv_iload_n hx hb dJ9_floorDiv_7cf53_13 rfl (lv_at hl 1 rfl) ?_
    refine lv_icmp_eq (tgt := 21) hx hb dJ9_floorDiv_7cf53_14 (by decide) (fun hc4 => ?_) (fun hc4 => ?_)
    · have h := dm_t hc4 h
      refine lv_iload_n hx hb dJ9_floorDiv_7cf53_21 rfl (lv_at hl 0 rfl) ?_
      obtain hE0 := dm_i1 h
      subst hE0
      rw [hQQ]
      have hP9 := hP.sub (ws' := []) [] rfl
      have hD9 := hD.sub (ws' := []) [] (by decide) rfl
      exact W.iret (v := x2) hx hb hr (fun t ht hW => ⟨⟨x2, (), rfl, rfl, by rw [ht]; exact hP9, hD9⟩, hS.F ht⟩) hS.2.2 dJ9_floorDiv_7cf53_22
    · have h := dm_f hc4 h
      refine lv_iload_n hx hb dJ9_floorDiv_7cf53_17 rfl (lv_at hl 0 rfl) ?_
      refine lv_iconst (v := 1) hx hb dJ9_floorDiv_7cf53_18 (by decide) ?_
      refine lv_isub hx hb dJ9_floorDiv_7cf53_19 ?_
      obtain hE0 := dm_i1 h
      subst hE0
      rw [hQQ]
      have hP9 := hP.sub (ws' := []) [] rfl
      have hD9 := hD.sub (ws' := []) [] (by decide) rfl
      exact W.iret (v := (x2 - (1 : Int32))) hx hb hr (fun t ht hW => ⟨⟨(x2 - (1 : Int32)), (), rfl, rfl, by rw [ht]; exact hP9, hD9⟩, hS.F ht⟩) hS.2.2 dJ9_floorDiv_7cf53_20

def f_J9_floorMod_7cf53 (p0 : Int32) (p1 : Int32) : Option (Int32) :=
  dm_g (¬ p1 = 0) <|
  dm_let (p0 - p0 / p1 * p1) fun x2 =>
  if 0 ≤ (p0 ^^^ p1) then
    some x2
  else
    if x2 = 0 then
      some x2
    else
      some (x2 + p1)
set_option maxHeartbeats 4000000 in
set_option maxRecDepth 100000 in
theorem c_J9_floorMod_7cf53 (l : Launch) (dC : Nat → ClassId) (dI : Nat → Nat → Nat) (cyI cyJ cyC : ClassId) (sz : Nat)  (p0 : Int32) (p1 : Int32) (rv : Int32) (hf : f_J9_floorMod_7cf53 p0 p1 = some rv) : Met l yJ9_floorMod_7cf53 wsJ9_floorMod_7cf53 { frames := 0, cells := 0, slots := 0, locals := 0 } (va_Pc [.int p0, .int p1] (mc_Pre (dC, dI) (mc_tys cyI cyJ cyC) [] sz)) (va_Qi (fun r (_ : Unit) => r = rv) (fun _ t => mc_Post (dC, dI) (va_A [] sz) [] t) (va_A [] sz)) 0 0 (va_A [] sz) := by
  refine va_MetF (cc := cJ9_floorMod_7cf53) (maxL := 3) (ret := (some .int)) (by decide +kernel) rfl ?_
  intro p e s m args below meth c s₁ B hml hv
  obtain ⟨rfl, hsz, hP, hK, hD0, hnw⟩ := hv
  have hx := B.exec
  have hb := B.bytes
  have hr := B.returns
  have hts := atoms_spec (ws := wsJ9_floorMod_7cf53) B.pre
  have hown : s.vm.findClass RJ9 = some m.cls := findClass_of_methodNamed B.named
  have hlocks := B.notSynchronized
  subst hsz
  have hD := hD0.self (sz := s.heap.size)
  generalize hAe : va_A [] s.heap.size = A at hD ⊢
  have hA : ∀ q : Nat, s.heap.size ≤ q → A q := fun q h => by rw [← hAe]; exact Or.inr h
  have hS : va_S A s.heap s.heap [] := va_S.rf
  have hP : va_P (dC, dI) vwCl [] s.heap := hP
  have hl := lv_entry ([.int p0, .int p1]) (n := 3) (Nat.le_of_ble_eq_true rfl)
  rw [lg_entry_eq]
  generalize (lg_sl ([.int p0, .int p1]) ++ List.replicate (3 - (lg_sl ([.int p0, .int p1])).length) Slot.unset).toArray = ls at hl ⊢
  have hl : lv_has ls 3 [(0, .int p0), (1, .int p1)] := hl
  obtain ⟨QQ, hQQ⟩ : ∃ Q, Q = MQ below (va_Qi (fun r (_ : Unit) => r = rv) (fun _ t => mc_Post (dC, dI) A [] t) A) ([Value.int p0, Value.int p1] : List Value).toArray s 0 0 A := ⟨_, rfl⟩
  rw [← hQQ]
  have h := hf
  unfold f_J9_floorMod_7cf53 at h
  refine lv_iload_n hx hb dJ9_floorMod_7cf53_0 rfl (lv_at hl 0 rfl) ?_
  refine lv_iload_n hx hb dJ9_floorMod_7cf53_1 rfl (lv_at hl 1 rfl) ?_
  obtain ⟨hn1, h⟩ := dm_gs h
  refine lv_irem hx hb dJ9_floorMod_7cf53_2 hn1 ?_
  refine lv_topi (fun x2 ex2 => ?_)
  have h := dm_lu ex2 h
  refine lv_istore_n (lv' := [(2, .int x2), (0, .int p0), (1, .int p1)]) hx hb dJ9_floorMod_7cf53_3 rfl hl (by decide) rfl (fun ls hl => ?_)
  refine lv_iload_n hx hb dJ9_floorMod_7cf53_4 rfl (lv_at hl 1 rfl) ?_
  refine lv_iload_n hx hb dJ9_floorMod_7cf53_5 rfl (lv_at hl 2 rfl) ?_
  refine lv_ixor hx hb dJ9_floorMod_7cf53_6 ?_
  refine lv_if_ge (tgt := 18) hx hb dJ9_floorMod_7cf53_7 (by decide) (fun hc3 => ?_) (fun hc3 => ?_)
  · have h := dm_t hc3 h
    refine lv_iload_n hx hb dJ9_floorMod_7cf53_18 rfl (lv_at hl 0 rfl) ?_
    obtain hE0 := dm_i1 h
    subst hE0
    rw [hQQ]
    have hP9 := hP.sub (ws' := []) [] rfl
    have hD9 := hD.sub (ws' := []) [] (by decide) rfl
    exact W.iret (v := x2) hx hb hr (fun t ht hW => ⟨⟨x2, (), rfl, rfl, by rw [ht]; exact hP9, hD9⟩, hS.F ht⟩) hS.2.2 dJ9_floorMod_7cf53_19
  · have h := dm_f hc3 h
    refine lv_iload_n hx hb dJ9_floorMod_7cf53_10 rfl (lv_at hl 0 rfl) ?_
    refine lv_if_eq (tgt := 18) hx hb dJ9_floorMod_7cf53_11 (by decide) (fun hc4 => ?_) (fun hc4 => ?_)
    · have h := dm_t hc4 h
      refine lv_iload_n hx hb dJ9_floorMod_7cf53_18 rfl (lv_at hl 0 rfl) ?_
      obtain hE0 := dm_i1 h
      subst hE0
      rw [hQQ]
      have hP9 := hP.sub (ws' := []) [] rfl
      have hD9 := hD.sub (ws' := []) [] (by decide) rfl
      exact W.iret (v := x2) hx hb hr (fun t ht hW => ⟨⟨x2, (), rfl, rfl, by rw [ht]; exact hP9, hD9⟩, hS.F ht⟩) hS.2.2 dJ9_floorMod_7cf53_19
    · have h := dm_f hc4 h
      refine lv_iload_n hx hb dJ9_floorMod_7cf53_14 rfl (lv_at hl 0 rfl) ?_
      refine lv_iload_n hx hb dJ9_floorMod_7cf53_15 rfl (lv_at hl 2 rfl) ?_
      refine lv_iadd hx hb dJ9_floorMod_7cf53_16 ?_
      obtain hE0 := dm_i1 h
      subst hE0
      rw [hQQ]
      have hP9 := hP.sub (ws' := []) [] rfl
      have hD9 := hD.sub (ws' := []) [] (by decide) rfl
      exact W.iret (v := (x2 + p1)) hx hb hr (fun t ht hW => ⟨⟨(x2 + p1), (), rfl, rfl, by rw [ht]; exact hP9, hD9⟩, hS.F ht⟩) hS.2.2 dJ9_floorMod_7cf53_17

def f_X3_gcd_L13   : Nat → Int32 → Int32 → Int32 → Option (Int32)
  | 0, _, _, _ => none
  | n + 1, v3, v4, v5 =>
    if (100 : Int32) ≤ v3 then
      some v5
    else
      if v4 = 0 then
        some v5
      else
        dm_g (¬ v4 = 0) <|
        dm_let (v5 - v5 / v4 * v4) fun x9 =>
        dm_let (v3 + (1 : Int32)) fun x10 =>
        f_X3_gcd_L13 n x10 x9 v4
def f_X3_gcd (p0 : Int32) (p1 : Int32) : Option (Int32) :=
  dm_let (if 0 ≤ p0 then p0 else 0 - p0) fun x1 =>
  dm_let (if 0 ≤ p1 then p1 else 0 - p1) fun x2 =>
  f_X3_gcd_L13 100000 (0 : Int32) x2 x1
set_option maxHeartbeats 4000000 in
set_option maxRecDepth 100000 in
theorem c_X3_gcd (l : Launch) (dC : Nat → ClassId) (dI : Nat → Nat → Nat) (cyI cyJ cyC : ClassId) (sz : Nat)  (p0 : Int32) (p1 : Int32) (rv : Int32) (hf : f_X3_gcd p0 p1 = some rv) : Met l yX3_gcd wsX3_gcd { frames := 1, cells := 0, slots := 0, locals := 13 } (va_Pc [.int p0, .int p1] (mc_Pre (dC, dI) (mc_tys cyI cyJ cyC) [] sz)) (va_Qi (fun r (_ : Unit) => r = rv) (fun _ t => mc_Post (dC, dI) (va_A [] sz) [] t) (va_A [] sz)) 0 0 (va_A [] sz) := by
  refine Met.ofW (cc := cX3_gcd) (maxL := 6) (ret := (some .int)) (by decide +kernel) rfl ?_
  intro p e s m args below meth c s₁ B hml hv
  obtain ⟨rfl, hsz, hP, hK, hD0, hnw⟩ := hv
  have hx := B.exec
  have hb := B.bytes
  have hr := B.returns
  have hts := atoms_spec (ws := wsX3_gcd) B.pre
  have hown : s.vm.findClass RX3 = some m.cls := findClass_of_methodNamed B.named
  have hlocks := B.notSynchronized
  subst hsz
  have hD := hD0.self (sz := s.heap.size)
  generalize hAe : va_A [] s.heap.size = A at hD ⊢
  have hA : ∀ q : Nat, s.heap.size ≤ q → A q := fun q h => by rw [← hAe]; exact Or.inr h
  have hS : va_S A s.heap s.heap [] := va_S.rf
  have hP : va_P (dC, dI) vwCl [] s.heap := hP
  have hl := lv_entry ([.int p0, .int p1]) (n := 6) (Nat.le_of_ble_eq_true rfl)
  rw [lg_entry_eq]
  generalize (lg_sl ([.int p0, .int p1]) ++ List.replicate (6 - (lg_sl ([.int p0, .int p1])).length) Slot.unset).toArray = ls at hl ⊢
  have hl : lv_has ls 6 [(0, .int p0), (1, .int p1)] := hl
  obtain ⟨QQ, hQQ⟩ : ∃ Q, Q = MQ below (va_Qi (fun r (_ : Unit) => r = rv) (fun _ t => mc_Post (dC, dI) A [] t) A) ([Value.int p0, Value.int p1] : List Value).toArray s 0 0 A := ⟨_, rfl⟩
  rw [← hQQ]
  have h := hf
  unfold f_X3_gcd at h
  refine lv_iload_n hx hb dX3_gcd_0 rfl (lv_at hl 0 rfl) ?_
  refine va_mabs hx hb (hml.trans hl.1.symm) hown (hts (.methodLink RX3 156 Lib.Math.abs.name) (by decide +kernel)) (hts (.static Lib.Math.abs.name) (by decide +kernel)) (hts (.initialized "java/lang/Math") (by decide +kernel)) (hts (.code Lib.Math.abs.name Lib.Math.abs.code 1 (some .int)) (by decide +kernel)) (Nat.le_of_ble_eq_true rfl) (Nat.le_of_ble_eq_true rfl) (Nat.zero_le _) (Nat.zero_le _) dX3_gcd_1 ?_
  refine lv_topi (fun x1 ex1 => ?_)
  have h := dm_lu ex1 h
  refine lv_istore_n (lv' := [(2, .int x1), (0, .int p0), (1, .int p1)]) hx hb dX3_gcd_4 rfl hl (by decide) rfl (fun ls hl => ?_)
  refine lv_iload_n hx hb dX3_gcd_5 rfl (lv_at hl 2 rfl) ?_
  refine va_mabs hx hb (hml.trans hl.1.symm) hown (hts (.methodLink RX3 156 Lib.Math.abs.name) (by decide +kernel)) (hts (.static Lib.Math.abs.name) (by decide +kernel)) (hts (.initialized "java/lang/Math") (by decide +kernel)) (hts (.code Lib.Math.abs.name Lib.Math.abs.code 1 (some .int)) (by decide +kernel)) (Nat.le_of_ble_eq_true rfl) (Nat.le_of_ble_eq_true rfl) (Nat.zero_le _) (Nat.zero_le _) dX3_gcd_6 ?_
  refine lv_topi (fun x2 ex2 => ?_)
  have h := dm_lu ex2 h
  refine lv_istore_n (lv' := [(3, .int x2), (2, .int x1), (0, .int p0), (1, .int p1)]) hx hb dX3_gcd_9 rfl hl (by decide) rfl (fun ls hl => ?_)
  refine lv_iconst (v := 0) hx hb dX3_gcd_10 (by decide) ?_
  refine lv_istore (lv' := [(4, .int (0 : Int32)), (3, .int x2), (2, .int x1), (0, .int p0), (1, .int p1)]) hx hb dX3_gcd_11 hl (by decide) rfl (fun ls hl => ?_)
  have L13 : ∀ (n13 : Nat) (v3 : Int32) (v4 : Int32) (v5 : Int32) (H : Heap) (locs : List Loc) (ls : Array Slot), f_X3_gcd_L13 n13 v3 v4 v5 = some rv → va_P (dC, dI) vwCl [] H → va_D A [] → va_S A s.heap H locs → lv_has ls 6 [(4, .int v3), (3, .int v4), (2, .int v5), (0, .int p0), (1, .int p1)] → W p l e (headSpec wsX3_gcd { frames := 1, cells := 0, slots := 0, locals := 13 }).room s m ([Value.int p0, Value.int p1] : List Value).toArray below meth c H locs 0 0 QQ (F0 m 13 ls []) := by
    intro n13
    induction n13 with
    | zero =>
      intro v3 v4 v5 H locs ls h
      exact nomatch (show (none : Option (Int32)) = some _ from h)
    | succ n13 ih13 =>
      intro v3 v4 v5 H locs ls h hP hD hS hl
      rw [f_X3_gcd_L13] at h
      refine lv_iload hx hb dX3_gcd_13 (lv_at hl 0 rfl) ?_
      refine lv_bipush (v := 100) hx hb dX3_gcd_15 (by decide) ?_
      refine lv_icmp_ge (tgt := 40) hx hb dX3_gcd_17 (by decide) (fun hc6 => ?_) (fun hc6 => ?_)
      · have h := dm_t hc6 h
        refine lv_iload_n hx hb dX3_gcd_40 rfl (lv_at hl 2 rfl) ?_
        obtain hE0 := dm_i1 h
        subst hE0
        rw [hQQ]
        have hP9 := hP.sub (ws' := []) [] rfl
        have hD9 := hD.sub (ws' := []) [] (by decide) rfl
        exact W.iret (v := v5) hx hb hr (fun t ht hW => ⟨⟨v5, (), rfl, rfl, by rw [ht]; exact hP9, hD9⟩, hS.F ht⟩) hS.2.2 dX3_gcd_41
      · have h := dm_f hc6 h
        refine lv_iload_n hx hb dX3_gcd_20 rfl (lv_at hl 1 rfl) ?_
        refine lv_if_eq (tgt := 40) hx hb dX3_gcd_21 (by decide) (fun hc7 => ?_) (fun hc7 => ?_)
        · have h := dm_t hc7 h
          refine lv_iload_n hx hb dX3_gcd_40 rfl (lv_at hl 2 rfl) ?_
          obtain hE0 := dm_i1 h
          subst hE0
          rw [hQQ]
          have hP9 := hP.sub (ws' := []) [] rfl
          have hD9 := hD.sub (ws' := []) [] (by decide) rfl
          exact W.iret (v := v5) hx hb hr (fun t ht hW => ⟨⟨v5, (), rfl, rfl, by rw [ht]; exact hP9, hD9⟩, hS.F ht⟩) hS.2.2 dX3_gcd_41
        · have h := dm_f hc7 h
          refine lv_iload_n hx hb dX3_gcd_24 rfl (lv_at hl 2 rfl) ?_
          refine lv_iload_n hx hb dX3_gcd_25 rfl (lv_at hl 1 rfl) ?_
          obtain ⟨hn8, h⟩ := dm_gs h
          refine lv_irem hx hb dX3_gcd_26 hn8 ?_
          refine lv_topi (fun x9 ex9 => ?_)
          have h := dm_lu ex9 h
          refine lv_istore (lv' := [(5, .int x9), (4, .int v3), (3, .int v4), (2, .int v5), (0, .int p0), (1, .int p1)]) hx hb dX3_gcd_27 hl (by decide) rfl (fun ls hl => ?_)
          refine lv_iload_n hx hb dX3_gcd_29 rfl (lv_at hl 2 rfl) ?_
          refine lv_istore_n (lv' := [(2, .int v4), (5, .int x9), (4, .int v3), (3, .int v4), (0, .int p0), (1, .int p1)]) hx hb dX3_gcd_30 rfl hl (by decide) rfl (fun ls hl => ?_)
          refine lv_iload hx hb dX3_gcd_31 (lv_at hl 1 rfl) ?_
          refine lv_istore_n (lv' := [(3, .int x9), (2, .int v4), (5, .int x9), (4, .int v3), (0, .int p0), (1, .int p1)]) hx hb dX3_gcd_33 rfl hl (by decide) rfl (fun ls hl => ?_)
          obtain ⟨x10, ex10⟩ : ∃ y : Int32, y = (v3 + (1 : Int32)) := ⟨_, rfl⟩
          have h := dm_lu ex10 h
          refine lv_iinc (v := x10) (lv' := [(4, .int x10), (3, .int x9), (2, .int v4), (5, .int x9), (0, .int p0), (1, .int p1)]) hx hb dX3_gcd_34 hl (k := 3) rfl (by rw [ex10]; rfl) (by decide) rfl (fun ls hl => ?_)
          refine lv_goto (tgt := 13) hx hb dX3_gcd_37 (by decide) ?_
          exact ih13 x10 x9 v4 H _ ls h (hP.sub [] rfl) (hD.sub [] (by decide) rfl) hS (lv_sub hl [0, 1, 2, 4, 5] rfl)
  exact L13 100000 (0 : Int32) x2 x1 s.heap _ ls h hP hD hS hl

def f_X3_divides (p0 : Int32) (p1 : Int32) : Option (Int32) :=
  if p0 = 0 then
    some (0 : Int32)
  else
    dm_g (¬ p0 = 0) <|
    if (p1 - p1 / p0 * p0) = 0 then
      some (1 : Int32)
    else
      some (0 : Int32)
set_option maxHeartbeats 4000000 in
set_option maxRecDepth 100000 in
theorem c_X3_divides (l : Launch) (dC : Nat → ClassId) (dI : Nat → Nat → Nat) (cyI cyJ cyC : ClassId) (sz : Nat)  (p0 : Int32) (p1 : Int32) (rv : Int32) (hf : f_X3_divides p0 p1 = some rv) : Met l yX3_divides wsX3_divides { frames := 0, cells := 0, slots := 0, locals := 0 } (va_Pc [.int p0, .int p1] (mc_Pre (dC, dI) (mc_tys cyI cyJ cyC) [] sz)) (va_Qi (fun r (_ : Unit) => r = rv) (fun _ t => mc_Post (dC, dI) (va_A [] sz) [] t) (va_A [] sz)) 0 0 (va_A [] sz) := by
  refine Met.ofW (cc := cX3_divides) (maxL := 2) (ret := (some .boolean)) (by decide +kernel) rfl ?_
  intro p e s m args below meth c s₁ B hml hv
  obtain ⟨rfl, hsz, hP, hK, hD0, hnw⟩ := hv
  have hx := B.exec
  have hb := B.bytes
  have hr := B.returns
  have hts := atoms_spec (ws := wsX3_divides) B.pre
  have hown : s.vm.findClass RX3 = some m.cls := findClass_of_methodNamed B.named
  have hlocks := B.notSynchronized
  subst hsz
  have hD := hD0.self (sz := s.heap.size)
  generalize hAe : va_A [] s.heap.size = A at hD ⊢
  have hA : ∀ q : Nat, s.heap.size ≤ q → A q := fun q h => by rw [← hAe]; exact Or.inr h
  have hS : va_S A s.heap s.heap [] := va_S.rf
  have hP : va_P (dC, dI) vwCl [] s.heap := hP
  have hl := lv_entry ([.int p0, .int p1]) (n := 2) (Nat.le_of_ble_eq_true rfl)
  rw [lg_entry_eq]
  generalize (lg_sl ([.int p0, .int p1]) ++ List.replicate (2 - (lg_sl ([.int p0, .int p1])).length) Slot.unset).toArray = ls at hl ⊢
  have hl : lv_has ls 2 [(0, .int p0), (1, .int p1)] := hl
  obtain ⟨QQ, hQQ⟩ : ∃ Q, Q = MQ below (va_Qi (fun r (_ : Unit) => r = rv) (fun _ t => mc_Post (dC, dI) A [] t) A) ([Value.int p0, Value.int p1] : List Value).toArray s 0 0 A := ⟨_, rfl⟩
  rw [← hQQ]
  have h := hf
  unfold f_X3_divides at h
  refine lv_iload_n hx hb dX3_divides_0 rfl (lv_at hl 0 rfl) ?_
  refine lv_if_eq (tgt := 14) hx hb dX3_divides_1 (by decide) (fun hc1 => ?_) (fun hc1 => ?_)
  · have h := dm_t hc1 h
    refine lv_iconst (v := 0) hx hb dX3_divides_14 (by decide) ?_
    obtain hE0 := dm_i1 h
    subst hE0
    rw [hQQ]
    have hP9 := hP.sub (ws' := []) [] rfl
    have hD9 := hD.sub (ws' := []) [] (by decide) rfl
    exact W.zret (v := (0 : Int32)) hx hb hr rfl (fun t ht hW => ⟨⟨(0 : Int32), (), rfl, rfl, by rw [ht]; exact hP9, hD9⟩, hS.F ht⟩) hS.2.2 dX3_divides_15
  · have h := dm_f hc1 h
    refine lv_iload_n hx hb dX3_divides_4 rfl (lv_at hl 1 rfl) ?_
    refine lv_iload_n hx hb dX3_divides_5 rfl (lv_at hl 0 rfl) ?_
    obtain ⟨hn2, h⟩ := dm_gs h
    refine lv_irem hx hb dX3_divides_6 hn2 ?_
    refine lv_if_ne (tgt := 14) hx hb dX3_divides_7 (by decide) (fun hc3 => ?_) (fun hc3 => ?_)
    · have h := dm_f hc3 h
      refine lv_iconst (v := 0) hx hb dX3_divides_14 (by decide) ?_
      obtain hE0 := dm_i1 h
      subst hE0
      rw [hQQ]
      have hP9 := hP.sub (ws' := []) [] rfl
      have hD9 := hD.sub (ws' := []) [] (by decide) rfl
      exact W.zret (v := (0 : Int32)) hx hb hr rfl (fun t ht hW => ⟨⟨(0 : Int32), (), rfl, rfl, by rw [ht]; exact hP9, hD9⟩, hS.F ht⟩) hS.2.2 dX3_divides_15
    · have h := dm_t hc3 h
      refine lv_iconst (v := 1) hx hb dX3_divides_10 (by decide) ?_
      refine lv_goto (tgt := 15) hx hb dX3_divides_11 (by decide) ?_
      obtain hE0 := dm_i1 h
      subst hE0
      rw [hQQ]
      have hP9 := hP.sub (ws' := []) [] rfl
      have hD9 := hD.sub (ws' := []) [] (by decide) rfl
      exact W.zret (v := (1 : Int32)) hx hb hr rfl (fun t ht hW => ⟨⟨(1 : Int32), (), rfl, rfl, by rw [ht]; exact hP9, hD9⟩, hS.F ht⟩) hS.2.2 dX3_divides_15

def f_X3_root_L6 (p0 : Int32)  : Nat → Int32 → Int32 → Option (Int32)
  | 0, _, _ => none
  | n + 1, v1, v2 =>
    if v1 ≤ 0 then
      some v2
    else
      dm_let (v2 + v1) fun x4 =>
      if p0 < (x4 * x4) then
        dm_let (v1 >>> ((1 : Int32) &&& 31)) fun x6 =>
        f_X3_root_L6 p0 n x6 v2
      else
        dm_let (v1 >>> ((1 : Int32) &&& 31)) fun x7 =>
        f_X3_root_L6 p0 n x7 x4
def f_X3_root (p0 : Int32) : Option (Int32) :=
  f_X3_root_L6 p0 100000 (16384 : Int32) (0 : Int32)
set_option maxHeartbeats 4000000 in
set_option maxRecDepth 100000 in
theorem c_X3_root (l : Launch) (dC : Nat → ClassId) (dI : Nat → Nat → Nat) (cyI cyJ cyC : ClassId) (sz : Nat)  (p0 : Int32) (rv : Int32) (hf : f_X3_root p0 = some rv) : Met l yX3_root wsX3_root { frames := 0, cells := 0, slots := 0, locals := 0 } (va_Pc [.int p0] (mc_Pre (dC, dI) (mc_tys cyI cyJ cyC) [] sz)) (va_Qi (fun r (_ : Unit) => r = rv) (fun _ t => mc_Post (dC, dI) (va_A [] sz) [] t) (va_A [] sz)) 0 0 (va_A [] sz) := by
  refine Met.ofW (cc := cX3_root) (maxL := 4) (ret := (some .int)) (by decide +kernel) rfl ?_
  intro p e s m args below meth c s₁ B hml hv
  obtain ⟨rfl, hsz, hP, hK, hD0, hnw⟩ := hv
  have hx := B.exec
  have hb := B.bytes
  have hr := B.returns
  have hts := atoms_spec (ws := wsX3_root) B.pre
  have hown : s.vm.findClass RX3 = some m.cls := findClass_of_methodNamed B.named
  have hlocks := B.notSynchronized
  subst hsz
  have hD := hD0.self (sz := s.heap.size)
  generalize hAe : va_A [] s.heap.size = A at hD ⊢
  have hA : ∀ q : Nat, s.heap.size ≤ q → A q := fun q h => by rw [← hAe]; exact Or.inr h
  have hS : va_S A s.heap s.heap [] := va_S.rf
  have hP : va_P (dC, dI) vwCl [] s.heap := hP
  have hl := lv_entry ([.int p0]) (n := 4) (Nat.le_of_ble_eq_true rfl)
  rw [lg_entry_eq]
  generalize (lg_sl ([.int p0]) ++ List.replicate (4 - (lg_sl ([.int p0])).length) Slot.unset).toArray = ls at hl ⊢
  have hl : lv_has ls 4 [(0, .int p0)] := hl
  obtain ⟨QQ, hQQ⟩ : ∃ Q, Q = MQ below (va_Qi (fun r (_ : Unit) => r = rv) (fun _ t => mc_Post (dC, dI) A [] t) A) ([Value.int p0] : List Value).toArray s 0 0 A := ⟨_, rfl⟩
  rw [← hQQ]
  have h := hf
  unfold f_X3_root at h
  refine lv_iconst (v := 0) hx hb dX3_root_0 (by decide) ?_
  refine lv_istore_n (lv' := [(1, .int (0 : Int32)), (0, .int p0)]) hx hb dX3_root_1 rfl hl (by decide) rfl (fun ls hl => ?_)
  refine lv_sipush (v := 16384) hx hb dX3_root_2 (by decide) ?_
  refine lv_istore_n (lv' := [(2, .int (16384 : Int32)), (1, .int (0 : Int32)), (0, .int p0)]) hx hb dX3_root_5 rfl hl (by decide) rfl (fun ls hl => ?_)
  have L6 : ∀ (n6 : Nat) (v1 : Int32) (v2 : Int32) (H : Heap) (locs : List Loc) (ls : Array Slot), f_X3_root_L6 p0 n6 v1 v2 = some rv → va_P (dC, dI) vwCl [] H → va_D A [] → va_S A s.heap H locs → lv_has ls 4 [(2, .int v1), (1, .int v2), (0, .int p0)] → W p l e (headSpec wsX3_root { frames := 0, cells := 0, slots := 0, locals := 0 }).room s m ([Value.int p0] : List Value).toArray below meth c H locs 0 0 QQ (F0 m 6 ls []) := by
    intro n6
    induction n6 with
    | zero =>
      intro v1 v2 H locs ls h
      exact nomatch (show (none : Option (Int32)) = some _ from h)
    | succ n6 ih6 =>
      intro v1 v2 H locs ls h hP hD hS hl
      rw [f_X3_root_L6] at h
      refine lv_iload_n hx hb dX3_root_6 rfl (lv_at hl 0 rfl) ?_
      refine lv_if_le (tgt := 30) hx hb dX3_root_7 (by decide) (fun hc3 => ?_) (fun hc3 => ?_)
      · have h := dm_t hc3 h
        refine lv_iload_n hx hb dX3_root_30 rfl (lv_at hl 1 rfl) ?_
        obtain hE0 := dm_i1 h
        subst hE0
        rw [hQQ]
        have hP9 := hP.sub (ws' := []) [] rfl
        have hD9 := hD.sub (ws' := []) [] (by decide) rfl
        exact W.iret (v := v2) hx hb hr (fun t ht hW => ⟨⟨v2, (), rfl, rfl, by rw [ht]; exact hP9, hD9⟩, hS.F ht⟩) hS.2.2 dX3_root_31
      · have h := dm_f hc3 h
        refine lv_iload_n hx hb dX3_root_10 rfl (lv_at hl 1 rfl) ?_
        refine lv_iload_n hx hb dX3_root_11 rfl (lv_at hl 0 rfl) ?_
        refine lv_iadd hx hb dX3_root_12 ?_
        refine lv_topi (fun x4 ex4 => ?_)
        have h := dm_lu ex4 h
        refine lv_istore_n (lv' := [(3, .int x4), (2, .int v1), (1, .int v2), (0, .int p0)]) hx hb dX3_root_13 rfl hl (by decide) rfl (fun ls hl => ?_)
        refine lv_iload_n hx hb dX3_root_14 rfl (lv_at hl 0 rfl) ?_
        refine lv_iload_n hx hb dX3_root_15 rfl (lv_at hl 0 rfl) ?_
        refine lv_imul hx hb dX3_root_16 ?_
        refine lv_iload_n hx hb dX3_root_17 rfl (lv_at hl 3 rfl) ?_
        refine lv_icmp_gt (tgt := 23) hx hb dX3_root_18 (by decide) (fun hc5 => ?_) (fun hc5 => ?_)
        · have h := dm_t hc5 h
          refine lv_iload_n hx hb dX3_root_23 rfl (lv_at hl 1 rfl) ?_
          refine lv_iconst (v := 1) hx hb dX3_root_24 (by decide) ?_
          refine lv_ishr hx hb dX3_root_25 ?_
          refine lv_topi (fun x6 ex6 => ?_)
          have h := dm_lu ex6 h
          refine lv_istore_n (lv' := [(2, .int x6), (3, .int x4), (1, .int v2), (0, .int p0)]) hx hb dX3_root_26 rfl hl (by decide) rfl (fun ls hl => ?_)
          refine lv_goto (tgt := 6) hx hb dX3_root_27 (by decide) ?_
          exact ih6 x6 v2 H _ ls h (hP.sub [] rfl) (hD.sub [] (by decide) rfl) hS (lv_sub hl [0, 2, 3] rfl)
        · have h := dm_f hc5 h
          refine lv_iload_n hx hb dX3_root_21 rfl (lv_at hl 0 rfl) ?_
          refine lv_istore_n (lv' := [(1, .int x4), (3, .int x4), (2, .int v1), (0, .int p0)]) hx hb dX3_root_22 rfl hl (by decide) rfl (fun ls hl => ?_)
          refine lv_iload_n hx hb dX3_root_23 rfl (lv_at hl 2 rfl) ?_
          refine lv_iconst (v := 1) hx hb dX3_root_24 (by decide) ?_
          refine lv_ishr hx hb dX3_root_25 ?_
          refine lv_topi (fun x7 ex7 => ?_)
          have h := dm_lu ex7 h
          refine lv_istore_n (lv' := [(2, .int x7), (1, .int x4), (3, .int x4), (0, .int p0)]) hx hb dX3_root_26 rfl hl (by decide) rfl (fun ls hl => ?_)
          refine lv_goto (tgt := 6) hx hb dX3_root_27 (by decide) ?_
          exact ih6 x7 x4 H _ ls h (hP.sub [] rfl) (hD.sub [] (by decide) rfl) hS (lv_sub hl [0, 1, 3] rfl)
  exact L6 100000 (16384 : Int32) (0 : Int32) s.heap _ ls h hP hD hS hl

def f_X3_isPrimitive (p0 : Int32) (p1 : Int32) (p2 : Int32) : Option (Int32) :=
  dm_b1 (f_X3_gcd p0 p1) fun r1 =>
  dm_b1 (f_X3_gcd r1 p2) fun r3 =>
  if r3 = (1 : Int32) then
    some (1 : Int32)
  else
    some (0 : Int32)
set_option maxHeartbeats 4000000 in
set_option maxRecDepth 100000 in
theorem c_X3_isPrimitive (l : Launch) (dC : Nat → ClassId) (dI : Nat → Nat → Nat) (cyI cyJ cyC : ClassId) (sz : Nat)  (p0 : Int32) (p1 : Int32) (p2 : Int32) (rv : Int32) (hf : f_X3_isPrimitive p0 p1 p2 = some rv) : Met l yX3_isPrimitive wsX3_isPrimitive { frames := 2, cells := 0, slots := 0, locals := 38 } (va_Pc [.int p0, .int p1, .int p2] (mc_Pre (dC, dI) (mc_tys cyI cyJ cyC) [] sz)) (va_Qi (fun r (_ : Unit) => r = rv) (fun _ t => mc_Post (dC, dI) (va_A [] sz) [] t) (va_A [] sz)) 0 0 (va_A [] sz) := by
  refine Met.ofW (cc := cX3_isPrimitive) (maxL := 3) (ret := (some .boolean)) (by decide +kernel) rfl ?_
  intro p e s m args below meth c s₁ B hml hv
  obtain ⟨rfl, hsz, hP, hK, hD0, hnw⟩ := hv
  have hx := B.exec
  have hb := B.bytes
  have hr := B.returns
  have hts := atoms_spec (ws := wsX3_isPrimitive) B.pre
  have hown : s.vm.findClass RX3 = some m.cls := findClass_of_methodNamed B.named
  have hlocks := B.notSynchronized
  subst hsz
  have hD := hD0.self (sz := s.heap.size)
  generalize hAe : va_A [] s.heap.size = A at hD ⊢
  have hA : ∀ q : Nat, s.heap.size ≤ q → A q := fun q h => by rw [← hAe]; exact Or.inr h
  have hS : va_S A s.heap s.heap [] := va_S.rf
  have hP : va_P (dC, dI) vwCl [] s.heap := hP
  have hl := lv_entry ([.int p0, .int p1, .int p2]) (n := 3) (Nat.le_of_ble_eq_true rfl)
  rw [lg_entry_eq]
  generalize (lg_sl ([.int p0, .int p1, .int p2]) ++ List.replicate (3 - (lg_sl ([.int p0, .int p1, .int p2])).length) Slot.unset).toArray = ls at hl ⊢
  have hl : lv_has ls 3 [(0, .int p0), (1, .int p1), (2, .int p2)] := hl
  obtain ⟨QQ, hQQ⟩ : ∃ Q, Q = MQ below (va_Qi (fun r (_ : Unit) => r = rv) (fun _ t => mc_Post (dC, dI) A [] t) A) ([Value.int p0, Value.int p1, Value.int p2] : List Value).toArray s 0 0 A := ⟨_, rfl⟩
  rw [← hQQ]
  have h := hf
  unfold f_X3_isPrimitive at h
  refine lv_iload_n hx hb dX3_isPrimitive_0 rfl (lv_at hl 0 rfl) ?_
  refine lv_iload_n hx hb dX3_isPrimitive_1 rfl (lv_at hl 1 rfl) ?_
  obtain ⟨r1, hk2, h⟩ := dm_b1s h
  refine mc_i (wr := []) (va_runS (As := [.int p0, .int p1]) (rest := []) ⟨hx, hb, hml, hown, hts⟩ (c_X3_gcd l dC dI cyI cyJ cyC s.heap.size p0 p1 r1 hk2) (va_cwS 2 hts gX3_isPrimitive_X3_gcd rfl rfl rfl (by decide +kernel) ⟨(Nat.le_of_ble_eq_true rfl), (Nat.le_of_ble_eq_true rfl)⟩) (mc_preS hK (hP.sub (ws' := []) [] rfl) (hD.sub (ws' := []) [] (by decide) rfl) hnw) rfl rfl hl.1 rfl (lv_room (Nat.le_of_ble_eq_true rfl)) dX3_isPrimitive_2 ⟨Nat.zero_le _, Nat.zero_le _⟩) hP hD hS hA [] [] rfl rfl rfl (by decide) (fun H locs hP hD hS => ?_)
  have hP : va_P (dC, dI) vwCl [] H := hP
  have hD : va_D A [] := hD
  refine lv_iload_n hx hb dX3_isPrimitive_5 rfl (lv_at hl 2 rfl) ?_
  obtain ⟨r3, hk4, h⟩ := dm_b1s h
  refine mc_i (wr := []) (va_runS (As := [.int r1, .int p2]) (rest := []) ⟨hx, hb, hml, hown, hts⟩ (c_X3_gcd l dC dI cyI cyJ cyC H.size r1 p2 r3 hk4) (va_cwS 2 hts gX3_isPrimitive_X3_gcd rfl rfl rfl (by decide +kernel) ⟨(Nat.le_of_ble_eq_true rfl), (Nat.le_of_ble_eq_true rfl)⟩) (mc_preS hK (hP.sub (ws' := []) [] rfl) (hD.sub (ws' := []) [] (by decide) rfl) hnw) rfl rfl hl.1 rfl (lv_room (Nat.le_of_ble_eq_true rfl)) dX3_isPrimitive_6 ⟨Nat.zero_le _, Nat.zero_le _⟩) hP hD hS hA [] [] rfl rfl rfl (by decide) (fun H locs hP hD hS => ?_)
  have hP : va_P (dC, dI) vwCl [] H := hP
  have hD : va_D A [] := hD
  refine lv_iconst (v := 1) hx hb dX3_isPrimitive_9 (by decide) ?_
  refine lv_icmp_ne (tgt := 17) hx hb dX3_isPrimitive_10 (by decide) (fun hc5 => ?_) (fun hc5 => ?_)
  · have h := dm_f hc5 h
    refine lv_iconst (v := 0) hx hb dX3_isPrimitive_17 (by decide) ?_
    obtain hE0 := dm_i1 h
    subst hE0
    rw [hQQ]
    have hP9 := hP.sub (ws' := []) [] rfl
    have hD9 := hD.sub (ws' := []) [] (by decide) rfl
    exact W.zret (v := (0 : Int32)) hx hb hr rfl (fun t ht hW => ⟨⟨(0 : Int32), (), rfl, rfl, by rw [ht]; exact hP9, hD9⟩, hS.F ht⟩) hS.2.2 dX3_isPrimitive_18
  · have h := dm_t hc5 h
    refine lv_iconst (v := 1) hx hb dX3_isPrimitive_13 (by decide) ?_
    refine lv_goto (tgt := 18) hx hb dX3_isPrimitive_14 (by decide) ?_
    obtain hE0 := dm_i1 h
    subst hE0
    rw [hQQ]
    have hP9 := hP.sub (ws' := []) [] rfl
    have hD9 := hD.sub (ws' := []) [] (by decide) rfl
    exact W.zret (v := (1 : Int32)) hx hb hr rfl (fun t ht hW => ⟨⟨(1 : Int32), (), rfl, rfl, by rw [ht]; exact hP9, hD9⟩, hS.F ht⟩) hS.2.2 dX3_isPrimitive_18

def f_X3_isForm (p0 : Int32) (p1 : Int32) (p2 : Int32) : Option (Int32) :=
  if p0 ≤ 0 then
    some (0 : Int32)
  else
    if 0 ≤ ((p1 * p1) - (((4 : Int32) * p0) * p2)) then
      some (0 : Int32)
    else
      dm_b1 (f_X3_isPrimitive p0 p1 p2) fun r3 =>
      if r3 = 0 then
        some (0 : Int32)
      else
        some (1 : Int32)
set_option maxHeartbeats 4000000 in
set_option maxRecDepth 100000 in
theorem c_X3_isForm (l : Launch) (dC : Nat → ClassId) (dI : Nat → Nat → Nat) (cyI cyJ cyC : ClassId) (sz : Nat)  (p0 : Int32) (p1 : Int32) (p2 : Int32) (rv : Int32) (hf : f_X3_isForm p0 p1 p2 = some rv) : Met l yX3_isForm wsX3_isForm { frames := 3, cells := 0, slots := 0, locals := 60 } (va_Pc [.int p0, .int p1, .int p2] (mc_Pre (dC, dI) (mc_tys cyI cyJ cyC) [] sz)) (va_Qi (fun r (_ : Unit) => r = rv) (fun _ t => mc_Post (dC, dI) (va_A [] sz) [] t) (va_A [] sz)) 0 0 (va_A [] sz) := by
  refine Met.ofW (cc := cX3_isForm) (maxL := 3) (ret := (some .boolean)) (by decide +kernel) rfl ?_
  intro p e s m args below meth c s₁ B hml hv
  obtain ⟨rfl, hsz, hP, hK, hD0, hnw⟩ := hv
  have hx := B.exec
  have hb := B.bytes
  have hr := B.returns
  have hts := atoms_spec (ws := wsX3_isForm) B.pre
  have hown : s.vm.findClass RX3 = some m.cls := findClass_of_methodNamed B.named
  have hlocks := B.notSynchronized
  subst hsz
  have hD := hD0.self (sz := s.heap.size)
  generalize hAe : va_A [] s.heap.size = A at hD ⊢
  have hA : ∀ q : Nat, s.heap.size ≤ q → A q := fun q h => by rw [← hAe]; exact Or.inr h
  have hS : va_S A s.heap s.heap [] := va_S.rf
  have hP : va_P (dC, dI) vwCl [] s.heap := hP
  have hl := lv_entry ([.int p0, .int p1, .int p2]) (n := 3) (Nat.le_of_ble_eq_true rfl)
  rw [lg_entry_eq]
  generalize (lg_sl ([.int p0, .int p1, .int p2]) ++ List.replicate (3 - (lg_sl ([.int p0, .int p1, .int p2])).length) Slot.unset).toArray = ls at hl ⊢
  have hl : lv_has ls 3 [(0, .int p0), (1, .int p1), (2, .int p2)] := hl
  obtain ⟨QQ, hQQ⟩ : ∃ Q, Q = MQ below (va_Qi (fun r (_ : Unit) => r = rv) (fun _ t => mc_Post (dC, dI) A [] t) A) ([Value.int p0, Value.int p1, Value.int p2] : List Value).toArray s 0 0 A := ⟨_, rfl⟩
  rw [← hQQ]
  have h := hf
  unfold f_X3_isForm at h
  refine lv_iload_n hx hb dX3_isForm_0 rfl (lv_at hl 0 rfl) ?_
  refine lv_if_le (tgt := 29) hx hb dX3_isForm_1 (by decide) (fun hc1 => ?_) (fun hc1 => ?_)
  · have h := dm_t hc1 h
    refine lv_iconst (v := 0) hx hb dX3_isForm_29 (by decide) ?_
    obtain hE0 := dm_i1 h
    subst hE0
    rw [hQQ]
    have hP9 := hP.sub (ws' := []) [] rfl
    have hD9 := hD.sub (ws' := []) [] (by decide) rfl
    exact W.zret (v := (0 : Int32)) hx hb hr rfl (fun t ht hW => ⟨⟨(0 : Int32), (), rfl, rfl, by rw [ht]; exact hP9, hD9⟩, hS.F ht⟩) hS.2.2 dX3_isForm_30
  · have h := dm_f hc1 h
    refine lv_iload_n hx hb dX3_isForm_4 rfl (lv_at hl 1 rfl) ?_
    refine lv_iload_n hx hb dX3_isForm_5 rfl (lv_at hl 1 rfl) ?_
    refine lv_imul hx hb dX3_isForm_6 ?_
    refine lv_iconst (v := 4) hx hb dX3_isForm_7 (by decide) ?_
    refine lv_iload_n hx hb dX3_isForm_8 rfl (lv_at hl 0 rfl) ?_
    refine lv_imul hx hb dX3_isForm_9 ?_
    refine lv_iload_n hx hb dX3_isForm_10 rfl (lv_at hl 2 rfl) ?_
    refine lv_imul hx hb dX3_isForm_11 ?_
    refine lv_isub hx hb dX3_isForm_12 ?_
    refine lv_if_ge (tgt := 29) hx hb dX3_isForm_13 (by decide) (fun hc2 => ?_) (fun hc2 => ?_)
    · have h := dm_t hc2 h
      refine lv_iconst (v := 0) hx hb dX3_isForm_29 (by decide) ?_
      obtain hE0 := dm_i1 h
      subst hE0
      rw [hQQ]
      have hP9 := hP.sub (ws' := []) [] rfl
      have hD9 := hD.sub (ws' := []) [] (by decide) rfl
      exact W.zret (v := (0 : Int32)) hx hb hr rfl (fun t ht hW => ⟨⟨(0 : Int32), (), rfl, rfl, by rw [ht]; exact hP9, hD9⟩, hS.F ht⟩) hS.2.2 dX3_isForm_30
    · have h := dm_f hc2 h
      refine lv_iload_n hx hb dX3_isForm_16 rfl (lv_at hl 0 rfl) ?_
      refine lv_iload_n hx hb dX3_isForm_17 rfl (lv_at hl 1 rfl) ?_
      refine lv_iload_n hx hb dX3_isForm_18 rfl (lv_at hl 2 rfl) ?_
      obtain ⟨r3, hk4, h⟩ := dm_b1s h
      refine mc_i (wr := []) (va_runS (As := [.int p0, .int p1, .int p2]) (rest := []) ⟨hx, hb, hml, hown, hts⟩ (c_X3_isPrimitive l dC dI cyI cyJ cyC s.heap.size p0 p1 p2 r3 hk4) (va_cwS 3 hts gX3_isForm_X3_isPrimitive rfl rfl rfl (by decide +kernel) ⟨(Nat.le_of_ble_eq_true rfl), (Nat.le_of_ble_eq_true rfl)⟩) (mc_preS hK (hP.sub (ws' := []) [] rfl) (hD.sub (ws' := []) [] (by decide) rfl) hnw) rfl rfl hl.1 rfl (lv_room (Nat.le_of_ble_eq_true rfl)) dX3_isForm_19 ⟨Nat.zero_le _, Nat.zero_le _⟩) hP hD hS hA [] [] rfl rfl rfl (by decide) (fun H locs hP hD hS => ?_)
      have hP : va_P (dC, dI) vwCl [] H := hP
      have hD : va_D A [] := hD
      refine lv_if_eq (tgt := 29) hx hb dX3_isForm_22 (by decide) (fun hc5 => ?_) (fun hc5 => ?_)
      · have h := dm_t hc5 h
        refine lv_iconst (v := 0) hx hb dX3_isForm_29 (by decide) ?_
        obtain hE0 := dm_i1 h
        subst hE0
        rw [hQQ]
        have hP9 := hP.sub (ws' := []) [] rfl
        have hD9 := hD.sub (ws' := []) [] (by decide) rfl
        exact W.zret (v := (0 : Int32)) hx hb hr rfl (fun t ht hW => ⟨⟨(0 : Int32), (), rfl, rfl, by rw [ht]; exact hP9, hD9⟩, hS.F ht⟩) hS.2.2 dX3_isForm_30
      · have h := dm_f hc5 h
        refine lv_iconst (v := 1) hx hb dX3_isForm_25 (by decide) ?_
        refine lv_goto (tgt := 30) hx hb dX3_isForm_26 (by decide) ?_
        obtain hE0 := dm_i1 h
        subst hE0
        rw [hQQ]
        have hP9 := hP.sub (ws' := []) [] rfl
        have hD9 := hD.sub (ws' := []) [] (by decide) rfl
        exact W.zret (v := (1 : Int32)) hx hb hr rfl (fun t ht hW => ⟨⟨(1 : Int32), (), rfl, rfl, by rw [ht]; exact hP9, hD9⟩, hS.F ht⟩) hS.2.2 dX3_isForm_30

def f_X3_isCoefficient (p0 : Int32) : Option (Int32) :=
  if p0 < (-20000 : Int32) then
    some (0 : Int32)
  else
    if (20000 : Int32) < p0 then
      some (0 : Int32)
    else
      some (1 : Int32)
set_option maxHeartbeats 4000000 in
set_option maxRecDepth 100000 in
theorem c_X3_isCoefficient (l : Launch) (dC : Nat → ClassId) (dI : Nat → Nat → Nat) (cyI cyJ cyC : ClassId) (sz : Nat)  (p0 : Int32) (rv : Int32) (hf : f_X3_isCoefficient p0 = some rv) : Met l yX3_isCoefficient wsX3_isCoefficient { frames := 0, cells := 0, slots := 0, locals := 0 } (va_Pc [.int p0] (mc_Pre (dC, dI) (mc_tys cyI cyJ cyC) [] sz)) (va_Qi (fun r (_ : Unit) => r = rv) (fun _ t => mc_Post (dC, dI) (va_A [] sz) [] t) (va_A [] sz)) 0 0 (va_A [] sz) := by
  refine Met.ofW (cc := cX3_isCoefficient) (maxL := 1) (ret := (some .boolean)) (by decide +kernel) rfl ?_
  intro p e s m args below meth c s₁ B hml hv
  obtain ⟨rfl, hsz, hP, hK, hD0, hnw⟩ := hv
  have hx := B.exec
  have hb := B.bytes
  have hr := B.returns
  have hts := atoms_spec (ws := wsX3_isCoefficient) B.pre
  have hown : s.vm.findClass RX3 = some m.cls := findClass_of_methodNamed B.named
  have hlocks := B.notSynchronized
  subst hsz
  have hD := hD0.self (sz := s.heap.size)
  generalize hAe : va_A [] s.heap.size = A at hD ⊢
  have hA : ∀ q : Nat, s.heap.size ≤ q → A q := fun q h => by rw [← hAe]; exact Or.inr h
  have hS : va_S A s.heap s.heap [] := va_S.rf
  have hP : va_P (dC, dI) vwCl [] s.heap := hP
  have hl := lv_entry ([.int p0]) (n := 1) (Nat.le_of_ble_eq_true rfl)
  rw [lg_entry_eq]
  generalize (lg_sl ([.int p0]) ++ List.replicate (1 - (lg_sl ([.int p0])).length) Slot.unset).toArray = ls at hl ⊢
  have hl : lv_has ls 1 [(0, .int p0)] := hl
  obtain ⟨QQ, hQQ⟩ : ∃ Q, Q = MQ below (va_Qi (fun r (_ : Unit) => r = rv) (fun _ t => mc_Post (dC, dI) A [] t) A) ([Value.int p0] : List Value).toArray s 0 0 A := ⟨_, rfl⟩
  rw [← hQQ]
  have h := hf
  unfold f_X3_isCoefficient at h
  refine lv_iload_n hx hb dX3_isCoefficient_0 rfl (lv_at hl 0 rfl) ?_
  refine lv_sipush (v := -20000) hx hb dX3_isCoefficient_1 (by decide) ?_
  refine lv_icmp_lt (tgt := 18) hx hb dX3_isCoefficient_4 (by decide) (fun hc1 => ?_) (fun hc1 => ?_)
  · have h := dm_t hc1 h
    refine lv_iconst (v := 0) hx hb dX3_isCoefficient_18 (by decide) ?_
    obtain hE0 := dm_i1 h
    subst hE0
    rw [hQQ]
    have hP9 := hP.sub (ws' := []) [] rfl
    have hD9 := hD.sub (ws' := []) [] (by decide) rfl
    exact W.zret (v := (0 : Int32)) hx hb hr rfl (fun t ht hW => ⟨⟨(0 : Int32), (), rfl, rfl, by rw [ht]; exact hP9, hD9⟩, hS.F ht⟩) hS.2.2 dX3_isCoefficient_19
  · have h := dm_f hc1 h
    refine lv_iload_n hx hb dX3_isCoefficient_7 rfl (lv_at hl 0 rfl) ?_
    refine lv_sipush (v := 20000) hx hb dX3_isCoefficient_8 (by decide) ?_
    refine lv_icmp_gt (tgt := 18) hx hb dX3_isCoefficient_11 (by decide) (fun hc2 => ?_) (fun hc2 => ?_)
    · have h := dm_t hc2 h
      refine lv_iconst (v := 0) hx hb dX3_isCoefficient_18 (by decide) ?_
      obtain hE0 := dm_i1 h
      subst hE0
      rw [hQQ]
      have hP9 := hP.sub (ws' := []) [] rfl
      have hD9 := hD.sub (ws' := []) [] (by decide) rfl
      exact W.zret (v := (0 : Int32)) hx hb hr rfl (fun t ht hW => ⟨⟨(0 : Int32), (), rfl, rfl, by rw [ht]; exact hP9, hD9⟩, hS.F ht⟩) hS.2.2 dX3_isCoefficient_19
    · have h := dm_f hc2 h
      refine lv_iconst (v := 1) hx hb dX3_isCoefficient_14 (by decide) ?_
      refine lv_goto (tgt := 19) hx hb dX3_isCoefficient_15 (by decide) ?_
      obtain hE0 := dm_i1 h
      subst hE0
      rw [hQQ]
      have hP9 := hP.sub (ws' := []) [] rfl
      have hD9 := hD.sub (ws' := []) [] (by decide) rfl
      exact W.zret (v := (1 : Int32)) hx hb hr rfl (fun t ht hW => ⟨⟨(1 : Int32), (), rfl, rfl, by rw [ht]; exact hP9, hD9⟩, hS.F ht⟩) hS.2.2 dX3_isCoefficient_19

def f_X3_isDeskDiscriminant (p0 : Int32) : Option (Int32) :=
  dm_b1 (f_J9_floorMod_7cf53 p0 (4 : Int32)) fun r1 =>
  if p0 < (-2000 : Int32) then
    some (0 : Int32)
  else
    if 0 ≤ p0 then
      some (0 : Int32)
    else
      if r1 = 0 then
        some (1 : Int32)
      else
        if r1 = (1 : Int32) then
          some (1 : Int32)
        else
          some (0 : Int32)
set_option maxHeartbeats 4000000 in
set_option maxRecDepth 100000 in
theorem c_X3_isDeskDiscriminant (l : Launch) (dC : Nat → ClassId) (dI : Nat → Nat → Nat) (cyI cyJ cyC : ClassId) (sz : Nat)  (p0 : Int32) (rv : Int32) (hf : f_X3_isDeskDiscriminant p0 = some rv) : Met l yX3_isDeskDiscriminant wsX3_isDeskDiscriminant { frames := 1, cells := 0, slots := 0, locals := 22 } (va_Pc [.int p0] (mc_Pre (dC, dI) (mc_tys cyI cyJ cyC) [] sz)) (va_Qi (fun r (_ : Unit) => r = rv) (fun _ t => mc_Post (dC, dI) (va_A [] sz) [] t) (va_A [] sz)) 0 0 (va_A [] sz) := by
  refine Met.ofW (cc := cX3_isDeskDiscriminant) (maxL := 2) (ret := (some .boolean)) (by decide +kernel) rfl ?_
  intro p e s m args below meth c s₁ B hml hv
  obtain ⟨rfl, hsz, hP, hK, hD0, hnw⟩ := hv
  have hx := B.exec
  have hb := B.bytes
  have hr := B.returns
  have hts := atoms_spec (ws := wsX3_isDeskDiscriminant) B.pre
  have hown : s.vm.findClass RX3 = some m.cls := findClass_of_methodNamed B.named
  have hlocks := B.notSynchronized
  subst hsz
  have hD := hD0.self (sz := s.heap.size)
  generalize hAe : va_A [] s.heap.size = A at hD ⊢
  have hA : ∀ q : Nat, s.heap.size ≤ q → A q := fun q h => by rw [← hAe]; exact Or.inr h
  have hS : va_S A s.heap s.heap [] := va_S.rf
  have hP : va_P (dC, dI) vwCl [] s.heap := hP
  have hl := lv_entry ([.int p0]) (n := 2) (Nat.le_of_ble_eq_true rfl)
  rw [lg_entry_eq]
  generalize (lg_sl ([.int p0]) ++ List.replicate (2 - (lg_sl ([.int p0])).length) Slot.unset).toArray = ls at hl ⊢
  have hl : lv_has ls 2 [(0, .int p0)] := hl
  obtain ⟨QQ, hQQ⟩ : ∃ Q, Q = MQ below (va_Qi (fun r (_ : Unit) => r = rv) (fun _ t => mc_Post (dC, dI) A [] t) A) ([Value.int p0] : List Value).toArray s 0 0 A := ⟨_, rfl⟩
  rw [← hQQ]
  have h := hf
  unfold f_X3_isDeskDiscriminant at h
  refine lv_iload_n hx hb dX3_isDeskDiscriminant_0 rfl (lv_at hl 0 rfl) ?_
  refine lv_iconst (v := 4) hx hb dX3_isDeskDiscriminant_1 (by decide) ?_
  obtain ⟨r1, hk2, h⟩ := dm_b1s h
  refine mc_i (wr := []) (va_runS (As := [.int p0, .int (4 : Int32)]) (rest := []) ⟨hx, hb, hml, hown, hts⟩ (c_J9_floorMod_7cf53 l dC dI cyI cyJ cyC s.heap.size p0 (4 : Int32) r1 hk2) (va_cwS 2 hts gX3_isDeskDiscriminant_J9_floorMod_7cf53 rfl rfl rfl (by decide +kernel) ⟨(Nat.le_of_ble_eq_true rfl), (Nat.le_of_ble_eq_true rfl)⟩) (mc_preS hK (hP.sub (ws' := []) [] rfl) (hD.sub (ws' := []) [] (by decide) rfl) hnw) rfl rfl hl.1 rfl (lv_room (Nat.le_of_ble_eq_true rfl)) dX3_isDeskDiscriminant_2 ⟨Nat.zero_le _, Nat.zero_le _⟩) hP hD hS hA [] [] rfl rfl rfl (by decide) (fun H locs hP hD hS => ?_)
  have hP : va_P (dC, dI) vwCl [] H := hP
  have hD : va_D A [] := hD
  refine lv_istore_n (lv' := [(1, .int r1), (0, .int p0)]) hx hb dX3_isDeskDiscriminant_5 rfl hl (by decide) rfl (fun ls hl => ?_)
  refine lv_iload_n hx hb dX3_isDeskDiscriminant_6 rfl (lv_at hl 1 rfl) ?_
  refine lv_sipush (v := -2000) hx hb dX3_isDeskDiscriminant_7 (by decide) ?_
  refine lv_icmp_lt (tgt := 30) hx hb dX3_isDeskDiscriminant_10 (by decide) (fun hc3 => ?_) (fun hc3 => ?_)
  · have h := dm_t hc3 h
    refine lv_iconst (v := 0) hx hb dX3_isDeskDiscriminant_30 (by decide) ?_
    obtain hE0 := dm_i1 h
    subst hE0
    rw [hQQ]
    have hP9 := hP.sub (ws' := []) [] rfl
    have hD9 := hD.sub (ws' := []) [] (by decide) rfl
    exact W.zret (v := (0 : Int32)) hx hb hr rfl (fun t ht hW => ⟨⟨(0 : Int32), (), rfl, rfl, by rw [ht]; exact hP9, hD9⟩, hS.F ht⟩) hS.2.2 dX3_isDeskDiscriminant_31
  · have h := dm_f hc3 h
    refine lv_iload_n hx hb dX3_isDeskDiscriminant_13 rfl (lv_at hl 1 rfl) ?_
    refine lv_if_ge (tgt := 30) hx hb dX3_isDeskDiscriminant_14 (by decide) (fun hc4 => ?_) (fun hc4 => ?_)
    · have h := dm_t hc4 h
      refine lv_iconst (v := 0) hx hb dX3_isDeskDiscriminant_30 (by decide) ?_
      obtain hE0 := dm_i1 h
      subst hE0
      rw [hQQ]
      have hP9 := hP.sub (ws' := []) [] rfl
      have hD9 := hD.sub (ws' := []) [] (by decide) rfl
      exact W.zret (v := (0 : Int32)) hx hb hr rfl (fun t ht hW => ⟨⟨(0 : Int32), (), rfl, rfl, by rw [ht]; exact hP9, hD9⟩, hS.F ht⟩) hS.2.2 dX3_isDeskDiscriminant_31
    · have h := dm_f hc4 h
      refine lv_iload_n hx hb dX3_isDeskDiscriminant_17 rfl (lv_at hl 0 rfl) ?_
      refine lv_if_eq (tgt := 26) hx hb dX3_isDeskDiscriminant_18 (by decide) (fun hc5 => ?_) (fun hc5 => ?_)
      · have h := dm_t hc5 h
        refine lv_iconst (v := 1) hx hb dX3_isDeskDiscriminant_26 (by decide) ?_
        refine lv_goto (tgt := 31) hx hb dX3_isDeskDiscriminant_27 (by decide) ?_
        obtain hE0 := dm_i1 h
        subst hE0
        rw [hQQ]
        have hP9 := hP.sub (ws' := []) [] rfl
        have hD9 := hD.sub (ws' := []) [] (by decide) rfl
        exact W.zret (v := (1 : Int32)) hx hb hr rfl (fun t ht hW => ⟨⟨(1 : Int32), (), rfl, rfl, by rw [ht]; exact hP9, hD9⟩, hS.F ht⟩) hS.2.2 dX3_isDeskDiscriminant_31
      · have h := dm_f hc5 h
        refine lv_iload_n hx hb dX3_isDeskDiscriminant_21 rfl (lv_at hl 0 rfl) ?_
        refine lv_iconst (v := 1) hx hb dX3_isDeskDiscriminant_22 (by decide) ?_
        refine lv_icmp_ne (tgt := 30) hx hb dX3_isDeskDiscriminant_23 (by decide) (fun hc6 => ?_) (fun hc6 => ?_)
        · have h := dm_f hc6 h
          refine lv_iconst (v := 0) hx hb dX3_isDeskDiscriminant_30 (by decide) ?_
          obtain hE0 := dm_i1 h
          subst hE0
          rw [hQQ]
          have hP9 := hP.sub (ws' := []) [] rfl
          have hD9 := hD.sub (ws' := []) [] (by decide) rfl
          exact W.zret (v := (0 : Int32)) hx hb hr rfl (fun t ht hW => ⟨⟨(0 : Int32), (), rfl, rfl, by rw [ht]; exact hP9, hD9⟩, hS.F ht⟩) hS.2.2 dX3_isDeskDiscriminant_31
        · have h := dm_t hc6 h
          refine lv_iconst (v := 1) hx hb dX3_isDeskDiscriminant_26 (by decide) ?_
          refine lv_goto (tgt := 31) hx hb dX3_isDeskDiscriminant_27 (by decide) ?_
          obtain hE0 := dm_i1 h
          subst hE0
          rw [hQQ]
          have hP9 := hP.sub (ws' := []) [] rfl
          have hD9 := hD.sub (ws' := []) [] (by decide) rfl
          exact W.zret (v := (1 : Int32)) hx hb hr rfl (fun t ht hW => ⟨⟨(1 : Int32), (), rfl, rfl, by rw [ht]; exact hP9, hD9⟩, hS.F ht⟩) hS.2.2 dX3_isDeskDiscriminant_31
