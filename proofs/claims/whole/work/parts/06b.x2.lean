def f_X2_isWithin_L2 (trow : Nat → Int32) (tlen : Int32) (u0sz : Int32)  : Nat → Int32 → Option (Int32)
  | 0, _ => none
  | n + 1, v1 =>
    if tlen ≤ v1 then
      some (1 : Int32)
    else
      dm_g (¬ (v1 < 0 ∨ 40 ≤ (v1).toNatClampNeg)) <|
      dm_b1 (f_X2_isLetter (trow (v1).toNatClampNeg)) fun r4 =>
      if r4 = 0 then
        dm_let (v1 + (1 : Int32)) fun x7 =>
        f_X2_isWithin_L2 trow tlen u0sz n x7
      else
        dm_g (¬ (v1 < 0 ∨ 40 ≤ (v1).toNatClampNeg)) <|
        dm_b1 (f_X2_numberOf (trow (v1).toNatClampNeg)) fun r9 =>
        dm_b1 (f_X0_has u0sz r9) fun r11 =>
        if r11 = 0 then
          some (0 : Int32)
        else
          dm_let (v1 + (1 : Int32)) fun x14 =>
          f_X2_isWithin_L2 trow tlen u0sz n x14
def f_X2_isWithin (trow : Nat → Int32) (tlen : Int32) (u0sz : Int32) : Option (Int32) :=
  f_X2_isWithin_L2 trow tlen u0sz 100000 (0 : Int32)
set_option maxHeartbeats 4000000 in
set_option maxRecDepth 100000 in
theorem c_X2_isWithin (l : Launch) (dC : Nat → ClassId) (dI : Nat → Nat → Nat) (cyI cyJ cyC : ClassId) (th tqr tqo u0h u0qa u0qb u0qc u0zh : Nat) (sz : Nat) (trow : Nat → Int32) (topn : Nat → Int32) (tlen : Int32) (u0fa : Nat → Int32) (u0fb : Nat → Int32) (u0fc : Nat → Int32) (u0dd : Int32) (u0sz : Int32) (u0zra : Int32) (u0zrb : Int32) (u0zrc : Int32) (u0zrp : Int32) (u0zrq : Int32) (u0zrr : Int32) (u0zrs : Int32) (u0zrd : Int32)  (rv : Int32) (hf : f_X2_isWithin trow tlen u0sz = some rv) : Met l yX2_isWithin wsX2_isWithin { frames := 2, cells := 0, slots := 0, locals := 40 } (va_Pc [.ref th, .ref u0h] (mc_Pre (dC, dI) (mc_tys cyI cyJ cyC) [(th, .inr (2, [.ref tqr, .ref tqo, .int tlen])), (tqr, .inl (cyI, 40, .inl trow)), (tqo, .inl (cyI, 5, .inl topn)), (u0h, .inr (0, [.ref u0qa, .ref u0qb, .ref u0qc, .ref u0zh, .int u0dd, .int u0sz])), (u0qa, .inl (cyI, 40, .inl u0fa)), (u0qb, .inl (cyI, 40, .inl u0fb)), (u0qc, .inl (cyI, 40, .inl u0fc)), (u0zh, .inr (1, [.int u0zra, .int u0zrb, .int u0zrc, .int u0zrp, .int u0zrq, .int u0zrr, .int u0zrs, .int u0zrd]))] sz)) (va_Qi (fun r (_ : Unit) => r = rv) (fun _ t => mc_Post (dC, dI) (va_A [(th, .inr (2, [.ref tqr, .ref tqo, .int tlen])), (tqr, .inl (cyI, 40, .inl trow)), (tqo, .inl (cyI, 5, .inl topn)), (u0h, .inr (0, [.ref u0qa, .ref u0qb, .ref u0qc, .ref u0zh, .int u0dd, .int u0sz])), (u0qa, .inl (cyI, 40, .inl u0fa)), (u0qb, .inl (cyI, 40, .inl u0fb)), (u0qc, .inl (cyI, 40, .inl u0fc)), (u0zh, .inr (1, [.int u0zra, .int u0zrb, .int u0zrc, .int u0zrp, .int u0zrq, .int u0zrr, .int u0zrs, .int u0zrd]))] sz) [(th, .inr (2, [.ref tqr, .ref tqo, .int tlen])), (tqr, .inl (cyI, 40, .inl trow)), (tqo, .inl (cyI, 5, .inl topn)), (u0h, .inr (0, [.ref u0qa, .ref u0qb, .ref u0qc, .ref u0zh, .int u0dd, .int u0sz])), (u0qa, .inl (cyI, 40, .inl u0fa)), (u0qb, .inl (cyI, 40, .inl u0fb)), (u0qc, .inl (cyI, 40, .inl u0fc)), (u0zh, .inr (1, [.int u0zra, .int u0zrb, .int u0zrc, .int u0zrp, .int u0zrq, .int u0zrr, .int u0zrs, .int u0zrd]))] t) (va_A [(th, .inr (2, [.ref tqr, .ref tqo, .int tlen])), (tqr, .inl (cyI, 40, .inl trow)), (tqo, .inl (cyI, 5, .inl topn)), (u0h, .inr (0, [.ref u0qa, .ref u0qb, .ref u0qc, .ref u0zh, .int u0dd, .int u0sz])), (u0qa, .inl (cyI, 40, .inl u0fa)), (u0qb, .inl (cyI, 40, .inl u0fb)), (u0qc, .inl (cyI, 40, .inl u0fc)), (u0zh, .inr (1, [.int u0zra, .int u0zrb, .int u0zrc, .int u0zrp, .int u0zrq, .int u0zrr, .int u0zrs, .int u0zrd]))] sz)) 0 0 (va_A [(th, .inr (2, [.ref tqr, .ref tqo, .int tlen])), (tqr, .inl (cyI, 40, .inl trow)), (tqo, .inl (cyI, 5, .inl topn)), (u0h, .inr (0, [.ref u0qa, .ref u0qb, .ref u0qc, .ref u0zh, .int u0dd, .int u0sz])), (u0qa, .inl (cyI, 40, .inl u0fa)), (u0qb, .inl (cyI, 40, .inl u0fb)), (u0qc, .inl (cyI, 40, .inl u0fc)), (u0zh, .inr (1, [.int u0zra, .int u0zrb, .int u0zrc, .int u0zrp, .int u0zrq, .int u0zrr, .int u0zrs, .int u0zrd]))] sz) := by
  refine Met.ofW (cc := cX2_isWithin) (maxL := 3) (ret := (some .boolean)) (by decide +kernel) rfl ?_
  intro p e s m args below meth c s₁ B hml hv
  obtain ⟨rfl, hsz, hP, hK, hD0, hnw⟩ := hv
  have hx := B.exec
  have hb := B.bytes
  have hr := B.returns
  have hts := atoms_spec (ws := wsX2_isWithin) B.pre
  have hown : s.vm.findClass RX2 = some m.cls := findClass_of_methodNamed B.named
  have hlocks := B.notSynchronized
  have hinX2 : ∀ w ∈ wsX20, w ∈ wsX2_isWithin := by decide +kernel
  subst hsz
  have hD := hD0.self (sz := s.heap.size)
  generalize hAe : va_A [(th, .inr (2, [.ref tqr, .ref tqo, .int tlen])), (tqr, .inl (cyI, 40, .inl trow)), (tqo, .inl (cyI, 5, .inl topn)), (u0h, .inr (0, [.ref u0qa, .ref u0qb, .ref u0qc, .ref u0zh, .int u0dd, .int u0sz])), (u0qa, .inl (cyI, 40, .inl u0fa)), (u0qb, .inl (cyI, 40, .inl u0fb)), (u0qc, .inl (cyI, 40, .inl u0fc)), (u0zh, .inr (1, [.int u0zra, .int u0zrb, .int u0zrc, .int u0zrp, .int u0zrq, .int u0zrr, .int u0zrs, .int u0zrd]))] s.heap.size = A at hD ⊢
  have hA : ∀ q : Nat, s.heap.size ≤ q → A q := fun q h => by rw [← hAe]; exact Or.inr h
  have hS : va_S A s.heap s.heap [] := va_S.rf
  have hP : va_P (dC, dI) vwCl [(th, .inr (2, [.ref tqr, .ref tqo, .int tlen])), (tqr, .inl (cyI, 40, .inl trow)), (tqo, .inl (cyI, 5, .inl topn)), (u0h, .inr (0, [.ref u0qa, .ref u0qb, .ref u0qc, .ref u0zh, .int u0dd, .int u0sz])), (u0qa, .inl (cyI, 40, .inl u0fa)), (u0qb, .inl (cyI, 40, .inl u0fb)), (u0qc, .inl (cyI, 40, .inl u0fc)), (u0zh, .inr (1, [.int u0zra, .int u0zrb, .int u0zrc, .int u0zrp, .int u0zrq, .int u0zrr, .int u0zrs, .int u0zrd]))] s.heap := hP
  have hl := lv_entry ([.ref th, .ref u0h]) (n := 3) (Nat.le_of_ble_eq_true rfl)
  rw [lg_entry_eq]
  generalize (lg_sl ([.ref th, .ref u0h]) ++ List.replicate (3 - (lg_sl ([.ref th, .ref u0h])).length) Slot.unset).toArray = ls at hl ⊢
  have hl : lv_has ls 3 [(0, .ref th), (1, .ref u0h)] := hl
  obtain ⟨QQ, hQQ⟩ : ∃ Q, Q = MQ below (va_Qi (fun r (_ : Unit) => r = rv) (fun _ t => mc_Post (dC, dI) A [(th, .inr (2, [.ref tqr, .ref tqo, .int tlen])), (tqr, .inl (cyI, 40, .inl trow)), (tqo, .inl (cyI, 5, .inl topn)), (u0h, .inr (0, [.ref u0qa, .ref u0qb, .ref u0qc, .ref u0zh, .int u0dd, .int u0sz])), (u0qa, .inl (cyI, 40, .inl u0fa)), (u0qb, .inl (cyI, 40, .inl u0fb)), (u0qc, .inl (cyI, 40, .inl u0fc)), (u0zh, .inr (1, [.int u0zra, .int u0zrb, .int u0zrc, .int u0zrp, .int u0zrq, .int u0zrr, .int u0zrs, .int u0zrd]))] t) A) ([Value.ref th, Value.ref u0h] : List Value).toArray s 0 0 A := ⟨_, rfl⟩
  rw [← hQQ]
  have h := hf
  unfold f_X2_isWithin at h
  refine lv_iconst (v := 0) hx hb dX2_isWithin_0 (by decide) ?_
  refine lv_istore_n (lv' := [(2, .int (0 : Int32)), (0, .ref th), (1, .ref u0h)]) hx hb dX2_isWithin_1 rfl hl (by decide) rfl (fun ls hl => ?_)
  have L2 : ∀ (n2 : Nat) (v1 : Int32) (H : Heap) (locs : List Loc) (ls : Array Slot), f_X2_isWithin_L2 trow tlen u0sz n2 v1 = some rv → va_P (dC, dI) vwCl [(th, .inr (2, [.ref tqr, .ref tqo, .int tlen])), (tqr, .inl (cyI, 40, .inl trow)), (tqo, .inl (cyI, 5, .inl topn)), (u0h, .inr (0, [.ref u0qa, .ref u0qb, .ref u0qc, .ref u0zh, .int u0dd, .int u0sz])), (u0qa, .inl (cyI, 40, .inl u0fa)), (u0qb, .inl (cyI, 40, .inl u0fb)), (u0qc, .inl (cyI, 40, .inl u0fc)), (u0zh, .inr (1, [.int u0zra, .int u0zrb, .int u0zrc, .int u0zrp, .int u0zrq, .int u0zrr, .int u0zrs, .int u0zrd]))] H → va_D A [(th, .inr (2, [.ref tqr, .ref tqo, .int tlen])), (tqr, .inl (cyI, 40, .inl trow)), (tqo, .inl (cyI, 5, .inl topn)), (u0h, .inr (0, [.ref u0qa, .ref u0qb, .ref u0qc, .ref u0zh, .int u0dd, .int u0sz])), (u0qa, .inl (cyI, 40, .inl u0fa)), (u0qb, .inl (cyI, 40, .inl u0fb)), (u0qc, .inl (cyI, 40, .inl u0fc)), (u0zh, .inr (1, [.int u0zra, .int u0zrb, .int u0zrc, .int u0zrp, .int u0zrq, .int u0zrr, .int u0zrs, .int u0zrd]))] → va_S A s.heap H locs → lv_has ls 3 [(2, .int v1), (0, .ref th), (1, .ref u0h)] → W p l e (headSpec wsX2_isWithin { frames := 2, cells := 0, slots := 0, locals := 40 }).room s m ([Value.ref th, Value.ref u0h] : List Value).toArray below meth c H locs 0 0 QQ (F0 m 2 ls []) := by
    intro n2
    induction n2 with
    | zero =>
      intro v1 H locs ls h
      exact nomatch (show (none : Option (Int32)) = some _ from h)
    | succ n2 ih2 =>
      intro v1 H locs ls h hP hD hS hl
      rw [f_X2_isWithin_L2] at h
      refine lv_iload_n hx hb dX2_isWithin_2 rfl (lv_at hl 0 rfl) ?_
      refine lv_aload_n hx hb dX2_isWithin_3 rfl (lv_at hl 1 rfl) ?_
      refine va_get (D := (dC, dI)) (ci := 2) (v := .int tlen) (C := RX2) (T := TX2) (N := 3) hx hb hts hinX2 hown hK hP 0 rfl rfl 2 (by decide) (hts (.fieldLink RX2 18 "FormDesk$Word" "length" "I") (by decide +kernel)) (fun _ h9 => h9) rfl dX2_isWithin_4 ?_
      refine lv_icmp_ge (tgt := 46) hx hb dX2_isWithin_7 (by decide) (fun hc2 => ?_) (fun hc2 => ?_)
      · have h := dm_t hc2 h
        refine lv_iconst (v := 1) hx hb dX2_isWithin_46 (by decide) ?_
        obtain hE0 := dm_i1 h
        subst hE0
        rw [hQQ]
        have hP9 := hP.sub (ws' := [(th, .inr (2, [.ref tqr, .ref tqo, .int tlen])), (tqr, .inl (cyI, 40, .inl trow)), (tqo, .inl (cyI, 5, .inl topn)), (u0h, .inr (0, [.ref u0qa, .ref u0qb, .ref u0qc, .ref u0zh, .int u0dd, .int u0sz])), (u0qa, .inl (cyI, 40, .inl u0fa)), (u0qb, .inl (cyI, 40, .inl u0fb)), (u0qc, .inl (cyI, 40, .inl u0fc)), (u0zh, .inr (1, [.int u0zra, .int u0zrb, .int u0zrc, .int u0zrp, .int u0zrq, .int u0zrr, .int u0zrs, .int u0zrd]))]) [0, 1, 2, 3, 4, 5, 6, 7] rfl
        have hD9 := hD.sub (ws' := [(th, .inr (2, [.ref tqr, .ref tqo, .int tlen])), (tqr, .inl (cyI, 40, .inl trow)), (tqo, .inl (cyI, 5, .inl topn)), (u0h, .inr (0, [.ref u0qa, .ref u0qb, .ref u0qc, .ref u0zh, .int u0dd, .int u0sz])), (u0qa, .inl (cyI, 40, .inl u0fa)), (u0qb, .inl (cyI, 40, .inl u0fb)), (u0qc, .inl (cyI, 40, .inl u0fc)), (u0zh, .inr (1, [.int u0zra, .int u0zrb, .int u0zrc, .int u0zrp, .int u0zrq, .int u0zrr, .int u0zrs, .int u0zrd]))]) [0, 1, 2, 3, 4, 5, 6, 7] (by decide) rfl
        exact W.zret (v := (1 : Int32)) hx hb hr rfl (fun t ht hW => ⟨⟨(1 : Int32), (), rfl, rfl, by rw [ht]; exact hP9, hD9⟩, hS.F ht⟩) hS.2.2 dX2_isWithin_47
      · have h := dm_f hc2 h
        refine lv_aload_n hx hb dX2_isWithin_10 rfl (lv_at hl 1 rfl) ?_
        refine va_get (D := (dC, dI)) (ci := 2) (v := .ref tqr) (C := RX2) (T := TX2) (N := 3) hx hb hts hinX2 hown hK hP 0 rfl rfl 0 (by decide) (hts (.fieldLink RX2 9 "FormDesk$Word" "row" "[I") (by decide +kernel)) (fun _ h9 => h9) rfl dX2_isWithin_11 ?_
        refine lv_iload_n hx hb dX2_isWithin_14 rfl (lv_at hl 0 rfl) ?_
        obtain ⟨hn3, h⟩ := dm_gs h
        refine va_iald hx hb hK hP 1 0 rfl rfl hn3 dX2_isWithin_15 ?_
        obtain ⟨r4, hk5, h⟩ := dm_b1s h
        refine mc_i (wr := [(th, .inr (2, [.ref tqr, .ref tqo, .int tlen])), (tqr, .inl (cyI, 40, .inl trow)), (tqo, .inl (cyI, 5, .inl topn)), (u0h, .inr (0, [.ref u0qa, .ref u0qb, .ref u0qc, .ref u0zh, .int u0dd, .int u0sz])), (u0qa, .inl (cyI, 40, .inl u0fa)), (u0qb, .inl (cyI, 40, .inl u0fb)), (u0qc, .inl (cyI, 40, .inl u0fc)), (u0zh, .inr (1, [.int u0zra, .int u0zrb, .int u0zrc, .int u0zrp, .int u0zrq, .int u0zrr, .int u0zrs, .int u0zrd]))]) (va_runS (As := [.int (trow (v1).toNatClampNeg)]) (rest := []) ⟨hx, hb, hml, hown, hts⟩ (c_X2_isLetter l dC dI cyI cyJ cyC H.size (trow (v1).toNatClampNeg) r4 hk5) (va_cwS 1 hts gX2_isWithin_X2_isLetter rfl rfl rfl (by decide +kernel) ⟨(Nat.le_of_ble_eq_true rfl), (Nat.le_of_ble_eq_true rfl)⟩) (mc_preS hK (hP.sub (ws' := []) [] rfl) (hD.sub (ws' := []) [] (by decide) rfl) hnw) rfl rfl hl.1 rfl (lv_room (Nat.le_of_ble_eq_true rfl)) dX2_isWithin_16 ⟨Nat.zero_le _, Nat.zero_le _⟩) hP hD hS hA [] [0, 1, 2, 3, 4, 5, 6, 7] rfl rfl rfl (by decide) (fun H locs hP hD hS => ?_)
        have hP : va_P (dC, dI) vwCl [(th, .inr (2, [.ref tqr, .ref tqo, .int tlen])), (tqr, .inl (cyI, 40, .inl trow)), (tqo, .inl (cyI, 5, .inl topn)), (u0h, .inr (0, [.ref u0qa, .ref u0qb, .ref u0qc, .ref u0zh, .int u0dd, .int u0sz])), (u0qa, .inl (cyI, 40, .inl u0fa)), (u0qb, .inl (cyI, 40, .inl u0fb)), (u0qc, .inl (cyI, 40, .inl u0fc)), (u0zh, .inr (1, [.int u0zra, .int u0zrb, .int u0zrc, .int u0zrp, .int u0zrq, .int u0zrr, .int u0zrs, .int u0zrd]))] H := hP
        have hD : va_D A [(th, .inr (2, [.ref tqr, .ref tqo, .int tlen])), (tqr, .inl (cyI, 40, .inl trow)), (tqo, .inl (cyI, 5, .inl topn)), (u0h, .inr (0, [.ref u0qa, .ref u0qb, .ref u0qc, .ref u0zh, .int u0dd, .int u0sz])), (u0qa, .inl (cyI, 40, .inl u0fa)), (u0qb, .inl (cyI, 40, .inl u0fb)), (u0qc, .inl (cyI, 40, .inl u0fc)), (u0zh, .inr (1, [.int u0zra, .int u0zrb, .int u0zrc, .int u0zrp, .int u0zrq, .int u0zrr, .int u0zrs, .int u0zrd]))] := hD
        refine lv_if_eq (tgt := 40) hx hb dX2_isWithin_19 (by decide) (fun hc6 => ?_) (fun hc6 => ?_)
        · have h := dm_t hc6 h
          obtain ⟨x7, ex7⟩ : ∃ y : Int32, y = (v1 + (1 : Int32)) := ⟨_, rfl⟩
          have h := dm_lu ex7 h
          refine lv_iinc (v := x7) (lv' := [(2, .int x7), (0, .ref th), (1, .ref u0h)]) hx hb dX2_isWithin_40 hl (k := 0) rfl (by rw [ex7]; rfl) (by decide) rfl (fun ls hl => ?_)
          refine lv_goto (tgt := 2) hx hb dX2_isWithin_43 (by decide) ?_
          exact ih2 x7 H _ ls h (hP.sub [0, 1, 2, 3, 4, 5, 6, 7] rfl) (hD.sub [0, 1, 2, 3, 4, 5, 6, 7] (by decide) rfl) hS (lv_sub hl [0, 1, 2] rfl)
        · have h := dm_f hc6 h
          refine lv_aload_n hx hb dX2_isWithin_22 rfl (lv_at hl 2 rfl) ?_
          refine lv_aload_n hx hb dX2_isWithin_23 rfl (lv_at hl 1 rfl) ?_
          refine va_get (D := (dC, dI)) (ci := 2) (v := .ref tqr) (C := RX2) (T := TX2) (N := 3) hx hb hts hinX2 hown hK hP 0 rfl rfl 0 (by decide) (hts (.fieldLink RX2 9 "FormDesk$Word" "row" "[I") (by decide +kernel)) (fun _ h9 => h9) rfl dX2_isWithin_24 ?_
          refine lv_iload_n hx hb dX2_isWithin_27 rfl (lv_at hl 0 rfl) ?_
          obtain ⟨hn8, h⟩ := dm_gs h
          refine va_iald hx hb hK hP 1 0 rfl rfl hn8 dX2_isWithin_28 ?_
          obtain ⟨r9, hk10, h⟩ := dm_b1s h
          refine mc_i (wr := [(th, .inr (2, [.ref tqr, .ref tqo, .int tlen])), (tqr, .inl (cyI, 40, .inl trow)), (tqo, .inl (cyI, 5, .inl topn)), (u0h, .inr (0, [.ref u0qa, .ref u0qb, .ref u0qc, .ref u0zh, .int u0dd, .int u0sz])), (u0qa, .inl (cyI, 40, .inl u0fa)), (u0qb, .inl (cyI, 40, .inl u0fb)), (u0qc, .inl (cyI, 40, .inl u0fc)), (u0zh, .inr (1, [.int u0zra, .int u0zrb, .int u0zrc, .int u0zrp, .int u0zrq, .int u0zrr, .int u0zrs, .int u0zrd]))]) (va_runS (As := [.int (trow (v1).toNatClampNeg)]) (rest := [.ref u0h]) ⟨hx, hb, hml, hown, hts⟩ (c_X2_numberOf l dC dI cyI cyJ cyC H.size (trow (v1).toNatClampNeg) r9 hk10) (va_cwS 1 hts gX2_isWithin_X2_numberOf rfl rfl rfl (by decide +kernel) ⟨(Nat.le_of_ble_eq_true rfl), (Nat.le_of_ble_eq_true rfl)⟩) (mc_preS hK (hP.sub (ws' := []) [] rfl) (hD.sub (ws' := []) [] (by decide) rfl) hnw) rfl rfl hl.1 rfl (lv_room (Nat.le_of_ble_eq_true rfl)) dX2_isWithin_29 ⟨Nat.zero_le _, Nat.zero_le _⟩) hP hD hS hA [] [0, 1, 2, 3, 4, 5, 6, 7] rfl rfl rfl (by decide) (fun H locs hP hD hS => ?_)
          have hP : va_P (dC, dI) vwCl [(th, .inr (2, [.ref tqr, .ref tqo, .int tlen])), (tqr, .inl (cyI, 40, .inl trow)), (tqo, .inl (cyI, 5, .inl topn)), (u0h, .inr (0, [.ref u0qa, .ref u0qb, .ref u0qc, .ref u0zh, .int u0dd, .int u0sz])), (u0qa, .inl (cyI, 40, .inl u0fa)), (u0qb, .inl (cyI, 40, .inl u0fb)), (u0qc, .inl (cyI, 40, .inl u0fc)), (u0zh, .inr (1, [.int u0zra, .int u0zrb, .int u0zrc, .int u0zrp, .int u0zrq, .int u0zrr, .int u0zrs, .int u0zrd]))] H := hP
          have hD : va_D A [(th, .inr (2, [.ref tqr, .ref tqo, .int tlen])), (tqr, .inl (cyI, 40, .inl trow)), (tqo, .inl (cyI, 5, .inl topn)), (u0h, .inr (0, [.ref u0qa, .ref u0qb, .ref u0qc, .ref u0zh, .int u0dd, .int u0sz])), (u0qa, .inl (cyI, 40, .inl u0fa)), (u0qb, .inl (cyI, 40, .inl u0fb)), (u0qc, .inl (cyI, 40, .inl u0fc)), (u0zh, .inr (1, [.int u0zra, .int u0zrb, .int u0zrc, .int u0zrp, .int u0zrq, .int u0zrr, .int u0zrs, .int u0zrd]))] := hD
          obtain ⟨r11, hk12, h⟩ := dm_b1s h
          refine mc_i (wr := [(th, .inr (2, [.ref tqr, .ref tqo, .int tlen])), (tqr, .inl (cyI, 40, .inl trow)), (tqo, .inl (cyI, 5, .inl topn))]) (va_runV (As := [.int r9]) (rest := []) ⟨hx, hb, hml, hown, hts⟩ (c_X0_has l dC dI cyI cyJ cyC u0h u0qa u0qb u0qc u0zh H.size u0fa u0fb u0fc u0dd u0sz u0zra u0zrb u0zrc u0zrp u0zrq u0zrr u0zrs u0zrd r9 r11 hk12) (cwV 1 hts gX2_isWithin_X0_has rfl rfl rfl (by decide +kernel) ⟨(Nat.le_of_ble_eq_true rfl), (Nat.le_of_ble_eq_true rfl)⟩) (mc_preV hK (hP.sub (ws' := [(u0h, .inr (0, [.ref u0qa, .ref u0qb, .ref u0qc, .ref u0zh, .int u0dd, .int u0sz])), (u0qa, .inl (cyI, 40, .inl u0fa)), (u0qb, .inl (cyI, 40, .inl u0fb)), (u0qc, .inl (cyI, 40, .inl u0fc)), (u0zh, .inr (1, [.int u0zra, .int u0zrb, .int u0zrc, .int u0zrp, .int u0zrq, .int u0zrr, .int u0zrs, .int u0zrd]))]) [3, 4, 5, 6, 7] rfl) (hD.sub (ws' := [(u0h, .inr (0, [.ref u0qa, .ref u0qb, .ref u0qc, .ref u0zh, .int u0dd, .int u0sz])), (u0qa, .inl (cyI, 40, .inl u0fa)), (u0qb, .inl (cyI, 40, .inl u0fb)), (u0qc, .inl (cyI, 40, .inl u0fc)), (u0zh, .inr (1, [.int u0zra, .int u0zrb, .int u0zrc, .int u0zrp, .int u0zrq, .int u0zrr, .int u0zrs, .int u0zrd]))]) [3, 4, 5, 6, 7] (by decide) rfl) hnw rfl rfl) rfl rfl hl.1 rfl (lv_room (Nat.le_of_ble_eq_true rfl)) dX2_isWithin_32 ⟨Nat.zero_le _, Nat.zero_le _⟩) hP hD hS hA [3, 4, 5, 6, 7] [0, 1, 2] rfl rfl rfl (by decide) (fun H locs hP hD hS => ?_)
          have hP : va_P (dC, dI) vwCl [(th, .inr (2, [.ref tqr, .ref tqo, .int tlen])), (tqr, .inl (cyI, 40, .inl trow)), (tqo, .inl (cyI, 5, .inl topn)), (u0h, .inr (0, [.ref u0qa, .ref u0qb, .ref u0qc, .ref u0zh, .int u0dd, .int u0sz])), (u0qa, .inl (cyI, 40, .inl u0fa)), (u0qb, .inl (cyI, 40, .inl u0fb)), (u0qc, .inl (cyI, 40, .inl u0fc)), (u0zh, .inr (1, [.int u0zra, .int u0zrb, .int u0zrc, .int u0zrp, .int u0zrq, .int u0zrr, .int u0zrs, .int u0zrd]))] H := hP
          have hD : va_D A [(th, .inr (2, [.ref tqr, .ref tqo, .int tlen])), (tqr, .inl (cyI, 40, .inl trow)), (tqo, .inl (cyI, 5, .inl topn)), (u0h, .inr (0, [.ref u0qa, .ref u0qb, .ref u0qc, .ref u0zh, .int u0dd, .int u0sz])), (u0qa, .inl (cyI, 40, .inl u0fa)), (u0qb, .inl (cyI, 40, .inl u0fb)), (u0qc, .inl (cyI, 40, .inl u0fc)), (u0zh, .inr (1, [.int u0zra, .int u0zrb, .int u0zrc, .int u0zrp, .int u0zrq, .int u0zrr, .int u0zrs, .int u0zrd]))] := hD
          refine lv_if_ne (tgt := 40) hx hb dX2_isWithin_35 (by decide) (fun hc13 => ?_) (fun hc13 => ?_)
          · have h := dm_f hc13 h
            obtain ⟨x14, ex14⟩ : ∃ y : Int32, y = (v1 + (1 : Int32)) := ⟨_, rfl⟩
            have h := dm_lu ex14 h
            refine lv_iinc (v := x14) (lv' := [(2, .int x14), (0, .ref th), (1, .ref u0h)]) hx hb dX2_isWithin_40 hl (k := 0) rfl (by rw [ex14]; rfl) (by decide) rfl (fun ls hl => ?_)
            refine lv_goto (tgt := 2) hx hb dX2_isWithin_43 (by decide) ?_
            exact ih2 x14 H _ ls h (hP.sub [0, 1, 2, 3, 4, 5, 6, 7] rfl) (hD.sub [0, 1, 2, 3, 4, 5, 6, 7] (by decide) rfl) hS (lv_sub hl [0, 1, 2] rfl)
          · have h := dm_t hc13 h
            refine lv_iconst (v := 0) hx hb dX2_isWithin_38 (by decide) ?_
            obtain hE0 := dm_i1 h
            subst hE0
            rw [hQQ]
            have hP9 := hP.sub (ws' := [(th, .inr (2, [.ref tqr, .ref tqo, .int tlen])), (tqr, .inl (cyI, 40, .inl trow)), (tqo, .inl (cyI, 5, .inl topn)), (u0h, .inr (0, [.ref u0qa, .ref u0qb, .ref u0qc, .ref u0zh, .int u0dd, .int u0sz])), (u0qa, .inl (cyI, 40, .inl u0fa)), (u0qb, .inl (cyI, 40, .inl u0fb)), (u0qc, .inl (cyI, 40, .inl u0fc)), (u0zh, .inr (1, [.int u0zra, .int u0zrb, .int u0zrc, .int u0zrp, .int u0zrq, .int u0zrr, .int u0zrs, .int u0zrd]))]) [0, 1, 2, 3, 4, 5, 6, 7] rfl
            have hD9 := hD.sub (ws' := [(th, .inr (2, [.ref tqr, .ref tqo, .int tlen])), (tqr, .inl (cyI, 40, .inl trow)), (tqo, .inl (cyI, 5, .inl topn)), (u0h, .inr (0, [.ref u0qa, .ref u0qb, .ref u0qc, .ref u0zh, .int u0dd, .int u0sz])), (u0qa, .inl (cyI, 40, .inl u0fa)), (u0qb, .inl (cyI, 40, .inl u0fb)), (u0qc, .inl (cyI, 40, .inl u0fc)), (u0zh, .inr (1, [.int u0zra, .int u0zrb, .int u0zrc, .int u0zrp, .int u0zrq, .int u0zrr, .int u0zrs, .int u0zrd]))]) [0, 1, 2, 3, 4, 5, 6, 7] (by decide) rfl
            exact W.zret (v := (0 : Int32)) hx hb hr rfl (fun t ht hW => ⟨⟨(0 : Int32), (), rfl, rfl, by rw [ht]; exact hP9, hD9⟩, hS.F ht⟩) hS.2.2 dX2_isWithin_39
  exact L2 100000 (0 : Int32) s.heap _ ls h hP hD hS hl

def f_X2_valueIn_L14 (trow : Nat → Int32) (tlen : Int32) (u0fa : Nat → Int32) (u0fb : Nat → Int32) (u0dd : Int32) (u0sz : Int32)  : Nat → Int32 → Int32 → Int32 → (Nat → Int32) → Int32 → Int32 → Int32 → Int32 → Int32 → Int32 → Int32 → Int32 → Option (Int32 × (Nat → Int32) × Int32 × Int32 × Int32 × Int32 × Int32 × Int32 × Int32 × Int32)
  | 0, _, _, _, _, _, _, _, _, _, _, _, _ => none
  | n + 1, v2, v3, v4, v5, v6, v7, v8, v9, v10, v11, v12, v13 =>
    if tlen ≤ v2 then
      dm_g (¬ ((0 : Int32) < 0 ∨ 5 ≤ ((0 : Int32)).toNatClampNeg)) <|
      dm_b9 (f_X0_product u0fa u0fb u0dd u0sz v6 v7 v8 v9 v10 v11 v12 v13 (v5 ((0 : Int32)).toNatClampNeg) v3) fun r16 w17 w18 w19 w20 w21 w22 w23 w24 =>
      some (r16, v5, w17, w18, w19, w20, w21, w22, w23, w24)
    else
      dm_g (¬ (v2 < 0 ∨ 40 ≤ (v2).toNatClampNeg)) <|
      dm_let (trow (v2).toNatClampNeg) fun x27 =>
      dm_b1 (f_X2_isPower x27) fun r28 =>
      if r28 = 0 then
        dm_g (¬ (v4 < 0 ∨ 5 ≤ (v4).toNatClampNeg)) <|
        dm_b9 (f_X0_product u0fa u0fb u0dd u0sz v6 v7 v8 v9 v10 v11 v12 v13 (v5 (v4).toNatClampNeg) v3) fun r32 w33 w34 w35 w36 w37 w38 w39 w40 =>
        dm_g (¬ (v4 < 0 ∨ 5 ≤ (v4).toNatClampNeg)) <|
        if x27 = (40 : Int32) then
          if (4 : Int32) ≤ v4 then
            if x27 = (41 : Int32) then
              if v4 ≤ 0 then
                dm_b1 (f_X2_isCapital x27) fun r86 =>
                if r86 = 0 then
                  dm_b1 (f_X2_numberOf x27) fun r89 =>
                  dm_b1 (f_X0_opposite u0fa u0fb u0sz r89) fun r91 =>
                  dm_let (v2 + (1 : Int32)) fun x93 =>
                  f_X2_valueIn_L14 trow tlen u0fa u0fb u0dd u0sz n x93 r91 v4 (upd v5 (v4).toNatClampNeg r32) w33 w34 w35 w36 w37 w38 w39 w40
                else
                  dm_b1 (f_X2_numberOf x27) fun r94 =>
                  dm_let (v2 + (1 : Int32)) fun x96 =>
                  f_X2_valueIn_L14 trow tlen u0fa u0fb u0dd u0sz n x96 r94 v4 (upd v5 (v4).toNatClampNeg r32) w33 w34 w35 w36 w37 w38 w39 w40
              else
                dm_g (¬ (v4 < 0 ∨ 5 ≤ (v4).toNatClampNeg)) <|
                dm_let ((upd v5 (v4).toNatClampNeg r32) (v4).toNatClampNeg) fun x98 =>
                dm_let (v4 + (-1 : Int32)) fun x99 =>
                dm_let (v2 + (1 : Int32)) fun x100 =>
                f_X2_valueIn_L14 trow tlen u0fa u0fb u0dd u0sz n x100 x98 x99 (upd v5 (v4).toNatClampNeg r32) w33 w34 w35 w36 w37 w38 w39 w40
            else
              dm_b1 (f_X2_isCapital x27) fun r74 =>
              if r74 = 0 then
                dm_b1 (f_X2_numberOf x27) fun r77 =>
                dm_b1 (f_X0_opposite u0fa u0fb u0sz r77) fun r79 =>
                dm_let (v2 + (1 : Int32)) fun x81 =>
                f_X2_valueIn_L14 trow tlen u0fa u0fb u0dd u0sz n x81 r79 v4 (upd v5 (v4).toNatClampNeg r32) w33 w34 w35 w36 w37 w38 w39 w40
              else
                dm_b1 (f_X2_numberOf x27) fun r82 =>
                dm_let (v2 + (1 : Int32)) fun x84 =>
                f_X2_valueIn_L14 trow tlen u0fa u0fb u0dd u0sz n x84 r82 v4 (upd v5 (v4).toNatClampNeg r32) w33 w34 w35 w36 w37 w38 w39 w40
          else
            dm_let (v4 + (1 : Int32)) fun x101 =>
            dm_g (¬ (x101 < 0 ∨ 5 ≤ (x101).toNatClampNeg)) <|
            dm_let (v2 + (1 : Int32)) fun x103 =>
            f_X2_valueIn_L14 trow tlen u0fa u0fb u0dd u0sz n x103 (0 : Int32) x101 (upd (upd v5 (v4).toNatClampNeg r32) (x101).toNatClampNeg (0 : Int32)) w33 w34 w35 w36 w37 w38 w39 w40
        else
          if x27 = (41 : Int32) then
            if v4 ≤ 0 then
              dm_b1 (f_X2_isCapital x27) fun r57 =>
              if r57 = 0 then
                dm_b1 (f_X2_numberOf x27) fun r60 =>
                dm_b1 (f_X0_opposite u0fa u0fb u0sz r60) fun r62 =>
                dm_let (v2 + (1 : Int32)) fun x64 =>
                f_X2_valueIn_L14 trow tlen u0fa u0fb u0dd u0sz n x64 r62 v4 (upd v5 (v4).toNatClampNeg r32) w33 w34 w35 w36 w37 w38 w39 w40
              else
                dm_b1 (f_X2_numberOf x27) fun r65 =>
                dm_let (v2 + (1 : Int32)) fun x67 =>
                f_X2_valueIn_L14 trow tlen u0fa u0fb u0dd u0sz n x67 r65 v4 (upd v5 (v4).toNatClampNeg r32) w33 w34 w35 w36 w37 w38 w39 w40
            else
              dm_g (¬ (v4 < 0 ∨ 5 ≤ (v4).toNatClampNeg)) <|
              dm_let ((upd v5 (v4).toNatClampNeg r32) (v4).toNatClampNeg) fun x69 =>
              dm_let (v4 + (-1 : Int32)) fun x70 =>
              dm_let (v2 + (1 : Int32)) fun x71 =>
              f_X2_valueIn_L14 trow tlen u0fa u0fb u0dd u0sz n x71 x69 x70 (upd v5 (v4).toNatClampNeg r32) w33 w34 w35 w36 w37 w38 w39 w40
          else
            dm_b1 (f_X2_isCapital x27) fun r45 =>
            if r45 = 0 then
              dm_b1 (f_X2_numberOf x27) fun r48 =>
              dm_b1 (f_X0_opposite u0fa u0fb u0sz r48) fun r50 =>
              dm_let (v2 + (1 : Int32)) fun x52 =>
              f_X2_valueIn_L14 trow tlen u0fa u0fb u0dd u0sz n x52 r50 v4 (upd v5 (v4).toNatClampNeg r32) w33 w34 w35 w36 w37 w38 w39 w40
            else
              dm_b1 (f_X2_numberOf x27) fun r53 =>
              dm_let (v2 + (1 : Int32)) fun x55 =>
              f_X2_valueIn_L14 trow tlen u0fa u0fb u0dd u0sz n x55 r53 v4 (upd v5 (v4).toNatClampNeg r32) w33 w34 w35 w36 w37 w38 w39 w40
      else
        dm_b9 (f_X0_raised u0fa u0fb u0dd u0sz v6 v7 v8 v9 v10 v11 v12 v13 v3 (x27 - (48 : Int32))) fun r104 w105 w106 w107 w108 w109 w110 w111 w112 =>
        dm_let (v2 + (1 : Int32)) fun x114 =>
        f_X2_valueIn_L14 trow tlen u0fa u0fb u0dd u0sz n x114 r104 v4 v5 w105 w106 w107 w108 w109 w110 w111 w112
def f_X2_valueIn (trow : Nat → Int32) (topn : Nat → Int32) (tlen : Int32) (u0fa : Nat → Int32) (u0fb : Nat → Int32) (u0dd : Int32) (u0sz : Int32) (u0zra : Int32) (u0zrb : Int32) (u0zrc : Int32) (u0zrp : Int32) (u0zrq : Int32) (u0zrr : Int32) (u0zrs : Int32) (u0zrd : Int32) : Option (Int32 × (Nat → Int32) × Int32 × Int32 × Int32 × Int32 × Int32 × Int32 × Int32 × Int32) :=
  dm_g (¬ ((0 : Int32) < 0 ∨ 5 ≤ ((0 : Int32)).toNatClampNeg)) <|
  f_X2_valueIn_L14 trow tlen u0fa u0fb u0dd u0sz 100000 (0 : Int32) (0 : Int32) (0 : Int32) (upd topn ((0 : Int32)).toNatClampNeg (0 : Int32)) u0zra u0zrb u0zrc u0zrp u0zrq u0zrr u0zrs u0zrd
set_option maxHeartbeats 4000000 in
set_option maxRecDepth 100000 in
theorem c_X2_valueIn (l : Launch) (dC : Nat → ClassId) (dI : Nat → Nat → Nat) (cyI cyJ cyC : ClassId) (th tqr tqo u0h u0qa u0qb u0qc u0zh : Nat) (sz : Nat) (trow : Nat → Int32) (topn : Nat → Int32) (tlen : Int32) (u0fa : Nat → Int32) (u0fb : Nat → Int32) (u0fc : Nat → Int32) (u0dd : Int32) (u0sz : Int32) (u0zra : Int32) (u0zrb : Int32) (u0zrc : Int32) (u0zrp : Int32) (u0zrq : Int32) (u0zrr : Int32) (u0zrs : Int32) (u0zrd : Int32)  (rv : Int32) (topn' : Nat → Int32) (u0zra' : Int32) (u0zrb' : Int32) (u0zrc' : Int32) (u0zrp' : Int32) (u0zrq' : Int32) (u0zrr' : Int32) (u0zrs' : Int32) (u0zrd' : Int32) (hf : f_X2_valueIn trow topn tlen u0fa u0fb u0dd u0sz u0zra u0zrb u0zrc u0zrp u0zrq u0zrr u0zrs u0zrd = some (rv, topn', u0zra', u0zrb', u0zrc', u0zrp', u0zrq', u0zrr', u0zrs', u0zrd')) : Met l yX2_valueIn wsX2_valueIn { frames := 5, cells := 0, slots := 0, locals := 120 } (va_Pc [.ref th, .ref u0h] (mc_Pre (dC, dI) (mc_tys cyI cyJ cyC) [(th, .inr (2, [.ref tqr, .ref tqo, .int tlen])), (tqr, .inl (cyI, 40, .inl trow)), (tqo, .inl (cyI, 5, .inl topn)), (u0h, .inr (0, [.ref u0qa, .ref u0qb, .ref u0qc, .ref u0zh, .int u0dd, .int u0sz])), (u0qa, .inl (cyI, 40, .inl u0fa)), (u0qb, .inl (cyI, 40, .inl u0fb)), (u0qc, .inl (cyI, 40, .inl u0fc)), (u0zh, .inr (1, [.int u0zra, .int u0zrb, .int u0zrc, .int u0zrp, .int u0zrq, .int u0zrr, .int u0zrs, .int u0zrd]))] sz)) (va_Qi (fun r (_ : Unit) => r = rv) (fun _ t => mc_Post (dC, dI) (va_A [(th, .inr (2, [.ref tqr, .ref tqo, .int tlen])), (tqr, .inl (cyI, 40, .inl trow)), (tqo, .inl (cyI, 5, .inl topn)), (u0h, .inr (0, [.ref u0qa, .ref u0qb, .ref u0qc, .ref u0zh, .int u0dd, .int u0sz])), (u0qa, .inl (cyI, 40, .inl u0fa)), (u0qb, .inl (cyI, 40, .inl u0fb)), (u0qc, .inl (cyI, 40, .inl u0fc)), (u0zh, .inr (1, [.int u0zra, .int u0zrb, .int u0zrc, .int u0zrp, .int u0zrq, .int u0zrr, .int u0zrs, .int u0zrd]))] sz) [(th, .inr (2, [.ref tqr, .ref tqo, .int tlen])), (tqr, .inl (cyI, 40, .inl trow)), (tqo, .inl (cyI, 5, .inl topn')), (u0h, .inr (0, [.ref u0qa, .ref u0qb, .ref u0qc, .ref u0zh, .int u0dd, .int u0sz])), (u0qa, .inl (cyI, 40, .inl u0fa)), (u0qb, .inl (cyI, 40, .inl u0fb)), (u0qc, .inl (cyI, 40, .inl u0fc)), (u0zh, .inr (1, [.int u0zra', .int u0zrb', .int u0zrc', .int u0zrp', .int u0zrq', .int u0zrr', .int u0zrs', .int u0zrd']))] t) (va_A [(th, .inr (2, [.ref tqr, .ref tqo, .int tlen])), (tqr, .inl (cyI, 40, .inl trow)), (tqo, .inl (cyI, 5, .inl topn)), (u0h, .inr (0, [.ref u0qa, .ref u0qb, .ref u0qc, .ref u0zh, .int u0dd, .int u0sz])), (u0qa, .inl (cyI, 40, .inl u0fa)), (u0qb, .inl (cyI, 40, .inl u0fb)), (u0qc, .inl (cyI, 40, .inl u0fc)), (u0zh, .inr (1, [.int u0zra, .int u0zrb, .int u0zrc, .int u0zrp, .int u0zrq, .int u0zrr, .int u0zrs, .int u0zrd]))] sz)) 0 0 (va_A [(th, .inr (2, [.ref tqr, .ref tqo, .int tlen])), (tqr, .inl (cyI, 40, .inl trow)), (tqo, .inl (cyI, 5, .inl topn)), (u0h, .inr (0, [.ref u0qa, .ref u0qb, .ref u0qc, .ref u0zh, .int u0dd, .int u0sz])), (u0qa, .inl (cyI, 40, .inl u0fa)), (u0qb, .inl (cyI, 40, .inl u0fb)), (u0qc, .inl (cyI, 40, .inl u0fc)), (u0zh, .inr (1, [.int u0zra, .int u0zrb, .int u0zrc, .int u0zrp, .int u0zrq, .int u0zrr, .int u0zrs, .int u0zrd]))] sz) := by
  refine Met.ofW (cc := cX2_valueIn) (maxL := 6) (ret := (some .int)) (by decide +kernel) rfl ?_
  intro p e s m args below meth c s₁ B hml hv
  obtain ⟨rfl, hsz, hP, hK, hD0, hnw⟩ := hv
  have hx := B.exec
  have hb := B.bytes
  have hr := B.returns
  have hts := atoms_spec (ws := wsX2_valueIn) B.pre
  have hown : s.vm.findClass RX2 = some m.cls := findClass_of_methodNamed B.named
  have hlocks := B.notSynchronized
  have hinX2 : ∀ w ∈ wsX20, w ∈ wsX2_valueIn := by decide +kernel
  subst hsz
  have hD := hD0.self (sz := s.heap.size)
  generalize hAe : va_A [(th, .inr (2, [.ref tqr, .ref tqo, .int tlen])), (tqr, .inl (cyI, 40, .inl trow)), (tqo, .inl (cyI, 5, .inl topn)), (u0h, .inr (0, [.ref u0qa, .ref u0qb, .ref u0qc, .ref u0zh, .int u0dd, .int u0sz])), (u0qa, .inl (cyI, 40, .inl u0fa)), (u0qb, .inl (cyI, 40, .inl u0fb)), (u0qc, .inl (cyI, 40, .inl u0fc)), (u0zh, .inr (1, [.int u0zra, .int u0zrb, .int u0zrc, .int u0zrp, .int u0zrq, .int u0zrr, .int u0zrs, .int u0zrd]))] s.heap.size = A at hD ⊢
  have hA : ∀ q : Nat, s.heap.size ≤ q → A q := fun q h => by rw [← hAe]; exact Or.inr h
  have hS : va_S A s.heap s.heap [] := va_S.rf
  have hP : va_P (dC, dI) vwCl [(th, .inr (2, [.ref tqr, .ref tqo, .int tlen])), (tqr, .inl (cyI, 40, .inl trow)), (tqo, .inl (cyI, 5, .inl topn)), (u0h, .inr (0, [.ref u0qa, .ref u0qb, .ref u0qc, .ref u0zh, .int u0dd, .int u0sz])), (u0qa, .inl (cyI, 40, .inl u0fa)), (u0qb, .inl (cyI, 40, .inl u0fb)), (u0qc, .inl (cyI, 40, .inl u0fc)), (u0zh, .inr (1, [.int u0zra, .int u0zrb, .int u0zrc, .int u0zrp, .int u0zrq, .int u0zrr, .int u0zrs, .int u0zrd]))] s.heap := hP
  have hl := lv_entry ([.ref th, .ref u0h]) (n := 6) (Nat.le_of_ble_eq_true rfl)
  rw [lg_entry_eq]
  generalize (lg_sl ([.ref th, .ref u0h]) ++ List.replicate (6 - (lg_sl ([.ref th, .ref u0h])).length) Slot.unset).toArray = ls at hl ⊢
  have hl : lv_has ls 6 [(0, .ref th), (1, .ref u0h)] := hl
  obtain ⟨QQ, hQQ⟩ : ∃ Q, Q = MQ below (va_Qi (fun r (_ : Unit) => r = rv) (fun _ t => mc_Post (dC, dI) A [(th, .inr (2, [.ref tqr, .ref tqo, .int tlen])), (tqr, .inl (cyI, 40, .inl trow)), (tqo, .inl (cyI, 5, .inl topn')), (u0h, .inr (0, [.ref u0qa, .ref u0qb, .ref u0qc, .ref u0zh, .int u0dd, .int u0sz])), (u0qa, .inl (cyI, 40, .inl u0fa)), (u0qb, .inl (cyI, 40, .inl u0fb)), (u0qc, .inl (cyI, 40, .inl u0fc)), (u0zh, .inr (1, [.int u0zra', .int u0zrb', .int u0zrc', .int u0zrp', .int u0zrq', .int u0zrr', .int u0zrs', .int u0zrd']))] t) A) ([Value.ref th, Value.ref u0h] : List Value).toArray s 0 0 A := ⟨_, rfl⟩
  rw [← hQQ]
  have h := hf
  unfold f_X2_valueIn at h
  refine lv_iconst (v := 0) hx hb dX2_valueIn_0 (by decide) ?_
  refine lv_istore_n (lv' := [(2, .int (0 : Int32)), (0, .ref th), (1, .ref u0h)]) hx hb dX2_valueIn_1 rfl hl (by decide) rfl (fun ls hl => ?_)
  refine lv_iconst (v := 0) hx hb dX2_valueIn_2 (by decide) ?_
  refine lv_istore_n (lv' := [(3, .int (0 : Int32)), (2, .int (0 : Int32)), (0, .ref th), (1, .ref u0h)]) hx hb dX2_valueIn_3 rfl hl (by decide) rfl (fun ls hl => ?_)
  refine lv_aload_n hx hb dX2_valueIn_4 rfl (lv_at hl 2 rfl) ?_
  refine va_get (D := (dC, dI)) (ci := 2) (v := .ref tqo) (C := RX2) (T := TX2) (N := 3) hx hb hts hinX2 hown hK hP 0 rfl rfl 1 (by decide) (hts (.fieldLink RX2 15 "FormDesk$Word" "open" "[I") (by decide +kernel)) (fun _ h9 => h9) rfl dX2_valueIn_5 ?_
  refine lv_iconst (v := 0) hx hb dX2_valueIn_8 (by decide) ?_
  refine lv_iconst (v := 0) hx hb dX2_valueIn_9 (by decide) ?_
  obtain ⟨hn1, h⟩ := dm_gs h
  refine va_iast hx hb hK hP hD hS 2 0 rfl rfl hn1 dX2_valueIn_10 (fun H locs hP hD hS => ?_)
  have hP : va_P (dC, dI) vwCl [(th, .inr (2, [.ref tqr, .ref tqo, .int tlen])), (tqr, .inl (cyI, 40, .inl trow)), (tqo, .inl (cyI, 5, .inl (upd topn ((0 : Int32)).toNatClampNeg (0 : Int32)))), (u0h, .inr (0, [.ref u0qa, .ref u0qb, .ref u0qc, .ref u0zh, .int u0dd, .int u0sz])), (u0qa, .inl (cyI, 40, .inl u0fa)), (u0qb, .inl (cyI, 40, .inl u0fb)), (u0qc, .inl (cyI, 40, .inl u0fc)), (u0zh, .inr (1, [.int u0zra, .int u0zrb, .int u0zrc, .int u0zrp, .int u0zrq, .int u0zrr, .int u0zrs, .int u0zrd]))] H := hP
  have hD : va_D A [(th, .inr (2, [.ref tqr, .ref tqo, .int tlen])), (tqr, .inl (cyI, 40, .inl trow)), (tqo, .inl (cyI, 5, .inl (upd topn ((0 : Int32)).toNatClampNeg (0 : Int32)))), (u0h, .inr (0, [.ref u0qa, .ref u0qb, .ref u0qc, .ref u0zh, .int u0dd, .int u0sz])), (u0qa, .inl (cyI, 40, .inl u0fa)), (u0qb, .inl (cyI, 40, .inl u0fb)), (u0qc, .inl (cyI, 40, .inl u0fc)), (u0zh, .inr (1, [.int u0zra, .int u0zrb, .int u0zrc, .int u0zrp, .int u0zrq, .int u0zrr, .int u0zrs, .int u0zrd]))] := hD
  refine lv_iconst (v := 0) hx hb dX2_valueIn_11 (by decide) ?_
  refine lv_istore (lv' := [(4, .int (0 : Int32)), (3, .int (0 : Int32)), (2, .int (0 : Int32)), (0, .ref th), (1, .ref u0h)]) hx hb dX2_valueIn_12 hl (by decide) rfl (fun ls hl => ?_)
  have L14 : ∀ (n14 : Nat) (v2 : Int32) (v3 : Int32) (v4 : Int32) (v5 : Nat → Int32) (v6 : Int32) (v7 : Int32) (v8 : Int32) (v9 : Int32) (v10 : Int32) (v11 : Int32) (v12 : Int32) (v13 : Int32) (H : Heap) (locs : List Loc) (ls : Array Slot), f_X2_valueIn_L14 trow tlen u0fa u0fb u0dd u0sz n14 v2 v3 v4 v5 v6 v7 v8 v9 v10 v11 v12 v13 = some (rv, topn', u0zra', u0zrb', u0zrc', u0zrp', u0zrq', u0zrr', u0zrs', u0zrd') → va_P (dC, dI) vwCl [(th, .inr (2, [.ref tqr, .ref tqo, .int tlen])), (tqr, .inl (cyI, 40, .inl trow)), (tqo, .inl (cyI, 5, .inl v5)), (u0h, .inr (0, [.ref u0qa, .ref u0qb, .ref u0qc, .ref u0zh, .int u0dd, .int u0sz])), (u0qa, .inl (cyI, 40, .inl u0fa)), (u0qb, .inl (cyI, 40, .inl u0fb)), (u0qc, .inl (cyI, 40, .inl u0fc)), (u0zh, .inr (1, [.int v6, .int v7, .int v8, .int v9, .int v10, .int v11, .int v12, .int v13]))] H → va_D A [(th, .inr (2, [.ref tqr, .ref tqo, .int tlen])), (tqr, .inl (cyI, 40, .inl trow)), (tqo, .inl (cyI, 5, .inl v5)), (u0h, .inr (0, [.ref u0qa, .ref u0qb, .ref u0qc, .ref u0zh, .int u0dd, .int u0sz])), (u0qa, .inl (cyI, 40, .inl u0fa)), (u0qb, .inl (cyI, 40, .inl u0fb)), (u0qc, .inl (cyI, 40, .inl u0fc)), (u0zh, .inr (1, [.int v6, .int v7, .int v8, .int v9, .int v10, .int v11, .int v12, .int v13]))] → va_S A s.heap H locs → lv_has ls 6 [(4, .int v2), (3, .int v3), (2, .int v4), (0, .ref th), (1, .ref u0h)] → W p l e (headSpec wsX2_valueIn { frames := 5, cells := 0, slots := 0, locals := 120 }).room s m ([Value.ref th, Value.ref u0h] : List Value).toArray below meth c H locs 0 0 QQ (F0 m 14 ls []) := by
    intro n14
    induction n14 with
    | zero =>
      intro v2 v3 v4 v5 v6 v7 v8 v9 v10 v11 v12 v13 H locs ls h
      exact nomatch (show (none : Option (Int32 × (Nat → Int32) × Int32 × Int32 × Int32 × Int32 × Int32 × Int32 × Int32 × Int32)) = some _ from h)
    | succ n14 ih14 =>
      intro v2 v3 v4 v5 v6 v7 v8 v9 v10 v11 v12 v13 H locs ls h hP hD hS hl
      rw [f_X2_valueIn_L14] at h
      refine lv_iload hx hb dX2_valueIn_14 (lv_at hl 0 rfl) ?_
      refine lv_aload_n hx hb dX2_valueIn_16 rfl (lv_at hl 3 rfl) ?_
      refine va_get (D := (dC, dI)) (ci := 2) (v := .int tlen) (C := RX2) (T := TX2) (N := 3) hx hb hts hinX2 hown hK hP 0 rfl rfl 2 (by decide) (hts (.fieldLink RX2 18 "FormDesk$Word" "length" "I") (by decide +kernel)) (fun _ h9 => h9) rfl dX2_valueIn_17 ?_
      refine lv_icmp_ge (tgt := 154) hx hb dX2_valueIn_20 (by decide) (fun hc14 => ?_) (fun hc14 => ?_)
      · have h := dm_t hc14 h
        refine lv_aload_n hx hb dX2_valueIn_154 rfl (lv_at hl 4 rfl) ?_
        refine lv_aload_n hx hb dX2_valueIn_155 rfl (lv_at hl 3 rfl) ?_
        refine va_get (D := (dC, dI)) (ci := 2) (v := .ref tqo) (C := RX2) (T := TX2) (N := 3) hx hb hts hinX2 hown hK hP 0 rfl rfl 1 (by decide) (hts (.fieldLink RX2 15 "FormDesk$Word" "open" "[I") (by decide +kernel)) (fun _ h9 => h9) rfl dX2_valueIn_156 ?_
        refine lv_iconst (v := 0) hx hb dX2_valueIn_159 (by decide) ?_
        obtain ⟨hn15, h⟩ := dm_gs h
        refine va_iald hx hb hK hP 2 0 rfl rfl hn15 dX2_valueIn_160 ?_
        refine lv_iload_n hx hb dX2_valueIn_161 rfl (lv_at hl 1 rfl) ?_
        obtain ⟨r16, w17, w18, w19, w20, w21, w22, w23, w24, hk25, h⟩ := dm_b9s h
        refine mc_i (wr := [(th, .inr (2, [.ref tqr, .ref tqo, .int tlen])), (tqr, .inl (cyI, 40, .inl trow)), (tqo, .inl (cyI, 5, .inl v5))]) (va_runV (As := [.int (v5 ((0 : Int32)).toNatClampNeg), .int v3]) (rest := []) ⟨hx, hb, hml, hown, hts⟩ (c_X0_product l dC dI cyI cyJ cyC u0h u0qa u0qb u0qc u0zh H.size u0fa u0fb u0fc u0dd u0sz v6 v7 v8 v9 v10 v11 v12 v13 (v5 ((0 : Int32)).toNatClampNeg) v3 r16 w17 w18 w19 w20 w21 w22 w23 w24 hk25) (cwV 2 hts gX2_valueIn_X0_product rfl rfl rfl (by decide +kernel) ⟨(Nat.le_of_ble_eq_true rfl), (Nat.le_of_ble_eq_true rfl)⟩) (mc_preV hK (hP.sub (ws' := [(u0h, .inr (0, [.ref u0qa, .ref u0qb, .ref u0qc, .ref u0zh, .int u0dd, .int u0sz])), (u0qa, .inl (cyI, 40, .inl u0fa)), (u0qb, .inl (cyI, 40, .inl u0fb)), (u0qc, .inl (cyI, 40, .inl u0fc)), (u0zh, .inr (1, [.int v6, .int v7, .int v8, .int v9, .int v10, .int v11, .int v12, .int v13]))]) [3, 4, 5, 6, 7] rfl) (hD.sub (ws' := [(u0h, .inr (0, [.ref u0qa, .ref u0qb, .ref u0qc, .ref u0zh, .int u0dd, .int u0sz])), (u0qa, .inl (cyI, 40, .inl u0fa)), (u0qb, .inl (cyI, 40, .inl u0fb)), (u0qc, .inl (cyI, 40, .inl u0fc)), (u0zh, .inr (1, [.int v6, .int v7, .int v8, .int v9, .int v10, .int v11, .int v12, .int v13]))]) [3, 4, 5, 6, 7] (by decide) rfl) hnw rfl rfl) rfl rfl hl.1 rfl (lv_room (Nat.le_of_ble_eq_true rfl)) dX2_valueIn_162 ⟨Nat.zero_le _, Nat.zero_le _⟩) hP hD hS hA [3, 4, 5, 6, 7] [0, 1, 2] rfl rfl rfl (by decide) (fun H locs hP hD hS => ?_)
        have hP : va_P (dC, dI) vwCl [(th, .inr (2, [.ref tqr, .ref tqo, .int tlen])), (tqr, .inl (cyI, 40, .inl trow)), (tqo, .inl (cyI, 5, .inl v5)), (u0h, .inr (0, [.ref u0qa, .ref u0qb, .ref u0qc, .ref u0zh, .int u0dd, .int u0sz])), (u0qa, .inl (cyI, 40, .inl u0fa)), (u0qb, .inl (cyI, 40, .inl u0fb)), (u0qc, .inl (cyI, 40, .inl u0fc)), (u0zh, .inr (1, [.int w17, .int w18, .int w19, .int w20, .int w21, .int w22, .int w23, .int w24]))] H := hP
        have hD : va_D A [(th, .inr (2, [.ref tqr, .ref tqo, .int tlen])), (tqr, .inl (cyI, 40, .inl trow)), (tqo, .inl (cyI, 5, .inl v5)), (u0h, .inr (0, [.ref u0qa, .ref u0qb, .ref u0qc, .ref u0zh, .int u0dd, .int u0sz])), (u0qa, .inl (cyI, 40, .inl u0fa)), (u0qb, .inl (cyI, 40, .inl u0fb)), (u0qc, .inl (cyI, 40, .inl u0fc)), (u0zh, .inr (1, [.int w17, .int w18, .int w19, .int w20, .int w21, .int w22, .int w23, .int w24]))] := hD
        obtain ⟨hE0, hE1, hE2, hE3, hE4, hE5, hE6, hE7, hE8, hE9⟩ := dm_i10 h
        subst hE0; subst hE1; subst hE2; subst hE3; subst hE4; subst hE5; subst hE6; subst hE7; subst hE8; subst hE9
        rw [hQQ]
        have hP9 := hP.sub (ws' := [(th, .inr (2, [.ref tqr, .ref tqo, .int tlen])), (tqr, .inl (cyI, 40, .inl trow)), (tqo, .inl (cyI, 5, .inl v5)), (u0h, .inr (0, [.ref u0qa, .ref u0qb, .ref u0qc, .ref u0zh, .int u0dd, .int u0sz])), (u0qa, .inl (cyI, 40, .inl u0fa)), (u0qb, .inl (cyI, 40, .inl u0fb)), (u0qc, .inl (cyI, 40, .inl u0fc)), (u0zh, .inr (1, [.int w17, .int w18, .int w19, .int w20, .int w21, .int w22, .int w23, .int w24]))]) [0, 1, 2, 3, 4, 5, 6, 7] rfl
        have hD9 := hD.sub (ws' := [(th, .inr (2, [.ref tqr, .ref tqo, .int tlen])), (tqr, .inl (cyI, 40, .inl trow)), (tqo, .inl (cyI, 5, .inl v5)), (u0h, .inr (0, [.ref u0qa, .ref u0qb, .ref u0qc, .ref u0zh, .int u0dd, .int u0sz])), (u0qa, .inl (cyI, 40, .inl u0fa)), (u0qb, .inl (cyI, 40, .inl u0fb)), (u0qc, .inl (cyI, 40, .inl u0fc)), (u0zh, .inr (1, [.int w17, .int w18, .int w19, .int w20, .int w21, .int w22, .int w23, .int w24]))]) [0, 1, 2, 3, 4, 5, 6, 7] (by decide) rfl
        exact W.iret (v := r16) hx hb hr (fun t ht hW => ⟨⟨r16, (), rfl, rfl, by rw [ht]; exact hP9, hD9⟩, hS.F ht⟩) hS.2.2 dX2_valueIn_165
      · have h := dm_f hc14 h
        refine lv_aload_n hx hb dX2_valueIn_23 rfl (lv_at hl 3 rfl) ?_
        refine va_get (D := (dC, dI)) (ci := 2) (v := .ref tqr) (C := RX2) (T := TX2) (N := 3) hx hb hts hinX2 hown hK hP 0 rfl rfl 0 (by decide) (hts (.fieldLink RX2 9 "FormDesk$Word" "row" "[I") (by decide +kernel)) (fun _ h9 => h9) rfl dX2_valueIn_24 ?_
        refine lv_iload hx hb dX2_valueIn_27 (lv_at hl 0 rfl) ?_
        obtain ⟨hn26, h⟩ := dm_gs h
        refine va_iald hx hb hK hP 1 0 rfl rfl hn26 dX2_valueIn_29 ?_
        refine lv_topi (fun x27 ex27 => ?_)
        have h := dm_lu ex27 h
        refine lv_istore (lv' := [(5, .int x27), (4, .int v2), (3, .int v3), (2, .int v4), (0, .ref th), (1, .ref u0h)]) hx hb dX2_valueIn_30 hl (by decide) rfl (fun ls hl => ?_)
        refine lv_iload hx hb dX2_valueIn_32 (lv_at hl 0 rfl) ?_
        obtain ⟨r28, hk29, h⟩ := dm_b1s h
        refine mc_i (wr := [(th, .inr (2, [.ref tqr, .ref tqo, .int tlen])), (tqr, .inl (cyI, 40, .inl trow)), (tqo, .inl (cyI, 5, .inl v5)), (u0h, .inr (0, [.ref u0qa, .ref u0qb, .ref u0qc, .ref u0zh, .int u0dd, .int u0sz])), (u0qa, .inl (cyI, 40, .inl u0fa)), (u0qb, .inl (cyI, 40, .inl u0fb)), (u0qc, .inl (cyI, 40, .inl u0fc)), (u0zh, .inr (1, [.int v6, .int v7, .int v8, .int v9, .int v10, .int v11, .int v12, .int v13]))]) (va_runS (As := [.int x27]) (rest := []) ⟨hx, hb, hml, hown, hts⟩ (c_X2_isPower l dC dI cyI cyJ cyC H.size x27 r28 hk29) (va_cwS 1 hts gX2_valueIn_X2_isPower rfl rfl rfl (by decide +kernel) ⟨(Nat.le_of_ble_eq_true rfl), (Nat.le_of_ble_eq_true rfl)⟩) (mc_preS hK (hP.sub (ws' := []) [] rfl) (hD.sub (ws' := []) [] (by decide) rfl) hnw) rfl rfl hl.1 rfl (lv_room (Nat.le_of_ble_eq_true rfl)) dX2_valueIn_34 ⟨Nat.zero_le _, Nat.zero_le _⟩) hP hD hS hA [] [0, 1, 2, 3, 4, 5, 6, 7] rfl rfl rfl (by decide) (fun H locs hP hD hS => ?_)
        have hP : va_P (dC, dI) vwCl [(th, .inr (2, [.ref tqr, .ref tqo, .int tlen])), (tqr, .inl (cyI, 40, .inl trow)), (tqo, .inl (cyI, 5, .inl v5)), (u0h, .inr (0, [.ref u0qa, .ref u0qb, .ref u0qc, .ref u0zh, .int u0dd, .int u0sz])), (u0qa, .inl (cyI, 40, .inl u0fa)), (u0qb, .inl (cyI, 40, .inl u0fb)), (u0qc, .inl (cyI, 40, .inl u0fc)), (u0zh, .inr (1, [.int v6, .int v7, .int v8, .int v9, .int v10, .int v11, .int v12, .int v13]))] H := hP
        have hD : va_D A [(th, .inr (2, [.ref tqr, .ref tqo, .int tlen])), (tqr, .inl (cyI, 40, .inl trow)), (tqo, .inl (cyI, 5, .inl v5)), (u0h, .inr (0, [.ref u0qa, .ref u0qb, .ref u0qc, .ref u0zh, .int u0dd, .int u0sz])), (u0qa, .inl (cyI, 40, .inl u0fa)), (u0qb, .inl (cyI, 40, .inl u0fb)), (u0qc, .inl (cyI, 40, .inl u0fc)), (u0zh, .inr (1, [.int v6, .int v7, .int v8, .int v9, .int v10, .int v11, .int v12, .int v13]))] := hD
        refine lv_if_eq (tgt := 54) hx hb dX2_valueIn_37 (by decide) (fun hc30 => ?_) (fun hc30 => ?_)
        · have h := dm_t hc30 h
          refine lv_aload_n hx hb dX2_valueIn_54 rfl (lv_at hl 4 rfl) ?_
          refine va_get (D := (dC, dI)) (ci := 2) (v := .ref tqo) (C := RX2) (T := TX2) (N := 3) hx hb hts hinX2 hown hK hP 0 rfl rfl 1 (by decide) (hts (.fieldLink RX2 15 "FormDesk$Word" "open" "[I") (by decide +kernel)) (fun _ h9 => h9) rfl dX2_valueIn_55 ?_
          refine lv_iload_n hx hb dX2_valueIn_58 rfl (lv_at hl 3 rfl) ?_
          refine lv_aload_n hx hb dX2_valueIn_59 rfl (lv_at hl 5 rfl) ?_
          refine lv_aload_n hx hb dX2_valueIn_60 rfl (lv_at hl 4 rfl) ?_
          refine va_get (D := (dC, dI)) (ci := 2) (v := .ref tqo) (C := RX2) (T := TX2) (N := 3) hx hb hts hinX2 hown hK hP 0 rfl rfl 1 (by decide) (hts (.fieldLink RX2 15 "FormDesk$Word" "open" "[I") (by decide +kernel)) (fun _ h9 => h9) rfl dX2_valueIn_61 ?_
          refine lv_iload_n hx hb dX2_valueIn_64 rfl (lv_at hl 3 rfl) ?_
          obtain ⟨hn31, h⟩ := dm_gs h
          refine va_iald hx hb hK hP 2 0 rfl rfl hn31 dX2_valueIn_65 ?_
          refine lv_iload_n hx hb dX2_valueIn_66 rfl (lv_at hl 2 rfl) ?_
          obtain ⟨r32, w33, w34, w35, w36, w37, w38, w39, w40, hk41, h⟩ := dm_b9s h
          refine mc_i (wr := [(th, .inr (2, [.ref tqr, .ref tqo, .int tlen])), (tqr, .inl (cyI, 40, .inl trow)), (tqo, .inl (cyI, 5, .inl v5))]) (va_runV (As := [.int (v5 (v4).toNatClampNeg), .int v3]) (rest := [.int v4, .ref tqo]) ⟨hx, hb, hml, hown, hts⟩ (c_X0_product l dC dI cyI cyJ cyC u0h u0qa u0qb u0qc u0zh H.size u0fa u0fb u0fc u0dd u0sz v6 v7 v8 v9 v10 v11 v12 v13 (v5 (v4).toNatClampNeg) v3 r32 w33 w34 w35 w36 w37 w38 w39 w40 hk41) (cwV 2 hts gX2_valueIn_X0_product rfl rfl rfl (by decide +kernel) ⟨(Nat.le_of_ble_eq_true rfl), (Nat.le_of_ble_eq_true rfl)⟩) (mc_preV hK (hP.sub (ws' := [(u0h, .inr (0, [.ref u0qa, .ref u0qb, .ref u0qc, .ref u0zh, .int u0dd, .int u0sz])), (u0qa, .inl (cyI, 40, .inl u0fa)), (u0qb, .inl (cyI, 40, .inl u0fb)), (u0qc, .inl (cyI, 40, .inl u0fc)), (u0zh, .inr (1, [.int v6, .int v7, .int v8, .int v9, .int v10, .int v11, .int v12, .int v13]))]) [3, 4, 5, 6, 7] rfl) (hD.sub (ws' := [(u0h, .inr (0, [.ref u0qa, .ref u0qb, .ref u0qc, .ref u0zh, .int u0dd, .int u0sz])), (u0qa, .inl (cyI, 40, .inl u0fa)), (u0qb, .inl (cyI, 40, .inl u0fb)), (u0qc, .inl (cyI, 40, .inl u0fc)), (u0zh, .inr (1, [.int v6, .int v7, .int v8, .int v9, .int v10, .int v11, .int v12, .int v13]))]) [3, 4, 5, 6, 7] (by decide) rfl) hnw rfl rfl) rfl rfl hl.1 rfl (lv_room (Nat.le_of_ble_eq_true rfl)) dX2_valueIn_67 ⟨Nat.zero_le _, Nat.zero_le _⟩) hP hD hS hA [3, 4, 5, 6, 7] [0, 1, 2] rfl rfl rfl (by decide) (fun H locs hP hD hS => ?_)
          have hP : va_P (dC, dI) vwCl [(th, .inr (2, [.ref tqr, .ref tqo, .int tlen])), (tqr, .inl (cyI, 40, .inl trow)), (tqo, .inl (cyI, 5, .inl v5)), (u0h, .inr (0, [.ref u0qa, .ref u0qb, .ref u0qc, .ref u0zh, .int u0dd, .int u0sz])), (u0qa, .inl (cyI, 40, .inl u0fa)), (u0qb, .inl (cyI, 40, .inl u0fb)), (u0qc, .inl (cyI, 40, .inl u0fc)), (u0zh, .inr (1, [.int w33, .int w34, .int w35, .int w36, .int w37, .int w38, .int w39, .int w40]))] H := hP
          have hD : va_D A [(th, .inr (2, [.ref tqr, .ref tqo, .int tlen])), (tqr, .inl (cyI, 40, .inl trow)), (tqo, .inl (cyI, 5, .inl v5)), (u0h, .inr (0, [.ref u0qa, .ref u0qb, .ref u0qc, .ref u0zh, .int u0dd, .int u0sz])), (u0qa, .inl (cyI, 40, .inl u0fa)), (u0qb, .inl (cyI, 40, .inl u0fb)), (u0qc, .inl (cyI, 40, .inl u0fc)), (u0zh, .inr (1, [.int w33, .int w34, .int w35, .int w36, .int w37, .int w38, .int w39, .int w40]))] := hD
          obtain ⟨hn42, h⟩ := dm_gs h
          refine va_iast hx hb hK hP hD hS 2 0 rfl rfl hn42 dX2_valueIn_70 (fun H locs hP hD hS => ?_)
          have hP : va_P (dC, dI) vwCl [(th, .inr (2, [.ref tqr, .ref tqo, .int tlen])), (tqr, .inl (cyI, 40, .inl trow)), (tqo, .inl (cyI, 5, .inl (upd v5 (v4).toNatClampNeg r32))), (u0h, .inr (0, [.ref u0qa, .ref u0qb, .ref u0qc, .ref u0zh, .int u0dd, .int u0sz])), (u0qa, .inl (cyI, 40, .inl u0fa)), (u0qb, .inl (cyI, 40, .inl u0fb)), (u0qc, .inl (cyI, 40, .inl u0fc)), (u0zh, .inr (1, [.int w33, .int w34, .int w35, .int w36, .int w37, .int w38, .int w39, .int w40]))] H := hP
          have hD : va_D A [(th, .inr (2, [.ref tqr, .ref tqo, .int tlen])), (tqr, .inl (cyI, 40, .inl trow)), (tqo, .inl (cyI, 5, .inl (upd v5 (v4).toNatClampNeg r32))), (u0h, .inr (0, [.ref u0qa, .ref u0qb, .ref u0qc, .ref u0zh, .int u0dd, .int u0sz])), (u0qa, .inl (cyI, 40, .inl u0fa)), (u0qb, .inl (cyI, 40, .inl u0fb)), (u0qc, .inl (cyI, 40, .inl u0fc)), (u0zh, .inr (1, [.int w33, .int w34, .int w35, .int w36, .int w37, .int w38, .int w39, .int w40]))] := hD
          refine lv_iload hx hb dX2_valueIn_71 (lv_at hl 0 rfl) ?_
          refine lv_bipush (v := 40) hx hb dX2_valueIn_73 (by decide) ?_
          refine lv_icmp_ne (tgt := 98) hx hb dX2_valueIn_75 (by decide) (fun hc43 => ?_) (fun hc43 => ?_)
          · have h := dm_f hc43 h
            refine lv_iload hx hb dX2_valueIn_98 (lv_at hl 0 rfl) ?_
            refine lv_bipush (v := 41) hx hb dX2_valueIn_100 (by decide) ?_
            refine lv_icmp_ne (tgt := 122) hx hb dX2_valueIn_102 (by decide) (fun hc44 => ?_) (fun hc44 => ?_)
            · have h := dm_f hc44 h
              refine lv_iload hx hb dX2_valueIn_122 (lv_at hl 0 rfl) ?_
              obtain ⟨r45, hk46, h⟩ := dm_b1s h
              refine mc_i (wr := [(th, .inr (2, [.ref tqr, .ref tqo, .int tlen])), (tqr, .inl (cyI, 40, .inl trow)), (tqo, .inl (cyI, 5, .inl (upd v5 (v4).toNatClampNeg r32))), (u0h, .inr (0, [.ref u0qa, .ref u0qb, .ref u0qc, .ref u0zh, .int u0dd, .int u0sz])), (u0qa, .inl (cyI, 40, .inl u0fa)), (u0qb, .inl (cyI, 40, .inl u0fb)), (u0qc, .inl (cyI, 40, .inl u0fc)), (u0zh, .inr (1, [.int w33, .int w34, .int w35, .int w36, .int w37, .int w38, .int w39, .int w40]))]) (va_runS (As := [.int x27]) (rest := []) ⟨hx, hb, hml, hown, hts⟩ (c_X2_isCapital l dC dI cyI cyJ cyC H.size x27 r45 hk46) (va_cwS 1 hts gX2_valueIn_X2_isCapital rfl rfl rfl (by decide +kernel) ⟨(Nat.le_of_ble_eq_true rfl), (Nat.le_of_ble_eq_true rfl)⟩) (mc_preS hK (hP.sub (ws' := []) [] rfl) (hD.sub (ws' := []) [] (by decide) rfl) hnw) rfl rfl hl.1 rfl (lv_room (Nat.le_of_ble_eq_true rfl)) dX2_valueIn_124 ⟨Nat.zero_le _, Nat.zero_le _⟩) hP hD hS hA [] [0, 1, 2, 3, 4, 5, 6, 7] rfl rfl rfl (by decide) (fun H locs hP hD hS => ?_)
              have hP : va_P (dC, dI) vwCl [(th, .inr (2, [.ref tqr, .ref tqo, .int tlen])), (tqr, .inl (cyI, 40, .inl trow)), (tqo, .inl (cyI, 5, .inl (upd v5 (v4).toNatClampNeg r32))), (u0h, .inr (0, [.ref u0qa, .ref u0qb, .ref u0qc, .ref u0zh, .int u0dd, .int u0sz])), (u0qa, .inl (cyI, 40, .inl u0fa)), (u0qb, .inl (cyI, 40, .inl u0fb)), (u0qc, .inl (cyI, 40, .inl u0fc)), (u0zh, .inr (1, [.int w33, .int w34, .int w35, .int w36, .int w37, .int w38, .int w39, .int w40]))] H := hP
              have hD : va_D A [(th, .inr (2, [.ref tqr, .ref tqo, .int tlen])), (tqr, .inl (cyI, 40, .inl trow)), (tqo, .inl (cyI, 5, .inl (upd v5 (v4).toNatClampNeg r32))), (u0h, .inr (0, [.ref u0qa, .ref u0qb, .ref u0qc, .ref u0zh, .int u0dd, .int u0sz])), (u0qa, .inl (cyI, 40, .inl u0fa)), (u0qb, .inl (cyI, 40, .inl u0fb)), (u0qc, .inl (cyI, 40, .inl u0fc)), (u0zh, .inr (1, [.int w33, .int w34, .int w35, .int w36, .int w37, .int w38, .int w39, .int w40]))] := hD
              refine lv_if_eq (tgt := 138) hx hb dX2_valueIn_127 (by decide) (fun hc47 => ?_) (fun hc47 => ?_)
              · have h := dm_t hc47 h
                refine lv_aload_n hx hb dX2_valueIn_138 rfl (lv_at hl 5 rfl) ?_
                refine lv_iload hx hb dX2_valueIn_139 (lv_at hl 0 rfl) ?_
                obtain ⟨r48, hk49, h⟩ := dm_b1s h
                refine mc_i (wr := [(th, .inr (2, [.ref tqr, .ref tqo, .int tlen])), (tqr, .inl (cyI, 40, .inl trow)), (tqo, .inl (cyI, 5, .inl (upd v5 (v4).toNatClampNeg r32))), (u0h, .inr (0, [.ref u0qa, .ref u0qb, .ref u0qc, .ref u0zh, .int u0dd, .int u0sz])), (u0qa, .inl (cyI, 40, .inl u0fa)), (u0qb, .inl (cyI, 40, .inl u0fb)), (u0qc, .inl (cyI, 40, .inl u0fc)), (u0zh, .inr (1, [.int w33, .int w34, .int w35, .int w36, .int w37, .int w38, .int w39, .int w40]))]) (va_runS (As := [.int x27]) (rest := [.ref u0h]) ⟨hx, hb, hml, hown, hts⟩ (c_X2_numberOf l dC dI cyI cyJ cyC H.size x27 r48 hk49) (va_cwS 1 hts gX2_valueIn_X2_numberOf rfl rfl rfl (by decide +kernel) ⟨(Nat.le_of_ble_eq_true rfl), (Nat.le_of_ble_eq_true rfl)⟩) (mc_preS hK (hP.sub (ws' := []) [] rfl) (hD.sub (ws' := []) [] (by decide) rfl) hnw) rfl rfl hl.1 rfl (lv_room (Nat.le_of_ble_eq_true rfl)) dX2_valueIn_141 ⟨Nat.zero_le _, Nat.zero_le _⟩) hP hD hS hA [] [0, 1, 2, 3, 4, 5, 6, 7] rfl rfl rfl (by decide) (fun H locs hP hD hS => ?_)
                have hP : va_P (dC, dI) vwCl [(th, .inr (2, [.ref tqr, .ref tqo, .int tlen])), (tqr, .inl (cyI, 40, .inl trow)), (tqo, .inl (cyI, 5, .inl (upd v5 (v4).toNatClampNeg r32))), (u0h, .inr (0, [.ref u0qa, .ref u0qb, .ref u0qc, .ref u0zh, .int u0dd, .int u0sz])), (u0qa, .inl (cyI, 40, .inl u0fa)), (u0qb, .inl (cyI, 40, .inl u0fb)), (u0qc, .inl (cyI, 40, .inl u0fc)), (u0zh, .inr (1, [.int w33, .int w34, .int w35, .int w36, .int w37, .int w38, .int w39, .int w40]))] H := hP
                have hD : va_D A [(th, .inr (2, [.ref tqr, .ref tqo, .int tlen])), (tqr, .inl (cyI, 40, .inl trow)), (tqo, .inl (cyI, 5, .inl (upd v5 (v4).toNatClampNeg r32))), (u0h, .inr (0, [.ref u0qa, .ref u0qb, .ref u0qc, .ref u0zh, .int u0dd, .int u0sz])), (u0qa, .inl (cyI, 40, .inl u0fa)), (u0qb, .inl (cyI, 40, .inl u0fb)), (u0qc, .inl (cyI, 40, .inl u0fc)), (u0zh, .inr (1, [.int w33, .int w34, .int w35, .int w36, .int w37, .int w38, .int w39, .int w40]))] := hD
                obtain ⟨r50, hk51, h⟩ := dm_b1s h
                refine mc_i (wr := [(th, .inr (2, [.ref tqr, .ref tqo, .int tlen])), (tqr, .inl (cyI, 40, .inl trow)), (tqo, .inl (cyI, 5, .inl (upd v5 (v4).toNatClampNeg r32)))]) (va_runV (As := [.int r48]) (rest := []) ⟨hx, hb, hml, hown, hts⟩ (c_X0_opposite l dC dI cyI cyJ cyC u0h u0qa u0qb u0qc u0zh H.size u0fa u0fb u0fc u0dd u0sz w33 w34 w35 w36 w37 w38 w39 w40 r48 r50 hk51) (cwV 1 hts gX2_valueIn_X0_opposite rfl rfl rfl (by decide +kernel) ⟨(Nat.le_of_ble_eq_true rfl), (Nat.le_of_ble_eq_true rfl)⟩) (mc_preV hK (hP.sub (ws' := [(u0h, .inr (0, [.ref u0qa, .ref u0qb, .ref u0qc, .ref u0zh, .int u0dd, .int u0sz])), (u0qa, .inl (cyI, 40, .inl u0fa)), (u0qb, .inl (cyI, 40, .inl u0fb)), (u0qc, .inl (cyI, 40, .inl u0fc)), (u0zh, .inr (1, [.int w33, .int w34, .int w35, .int w36, .int w37, .int w38, .int w39, .int w40]))]) [3, 4, 5, 6, 7] rfl) (hD.sub (ws' := [(u0h, .inr (0, [.ref u0qa, .ref u0qb, .ref u0qc, .ref u0zh, .int u0dd, .int u0sz])), (u0qa, .inl (cyI, 40, .inl u0fa)), (u0qb, .inl (cyI, 40, .inl u0fb)), (u0qc, .inl (cyI, 40, .inl u0fc)), (u0zh, .inr (1, [.int w33, .int w34, .int w35, .int w36, .int w37, .int w38, .int w39, .int w40]))]) [3, 4, 5, 6, 7] (by decide) rfl) hnw rfl rfl) rfl rfl hl.1 rfl (lv_room (Nat.le_of_ble_eq_true rfl)) dX2_valueIn_144 ⟨Nat.zero_le _, Nat.zero_le _⟩) hP hD hS hA [3, 4, 5, 6, 7] [0, 1, 2] rfl rfl rfl (by decide) (fun H locs hP hD hS => ?_)
                have hP : va_P (dC, dI) vwCl [(th, .inr (2, [.ref tqr, .ref tqo, .int tlen])), (tqr, .inl (cyI, 40, .inl trow)), (tqo, .inl (cyI, 5, .inl (upd v5 (v4).toNatClampNeg r32))), (u0h, .inr (0, [.ref u0qa, .ref u0qb, .ref u0qc, .ref u0zh, .int u0dd, .int u0sz])), (u0qa, .inl (cyI, 40, .inl u0fa)), (u0qb, .inl (cyI, 40, .inl u0fb)), (u0qc, .inl (cyI, 40, .inl u0fc)), (u0zh, .inr (1, [.int w33, .int w34, .int w35, .int w36, .int w37, .int w38, .int w39, .int w40]))] H := hP
                have hD : va_D A [(th, .inr (2, [.ref tqr, .ref tqo, .int tlen])), (tqr, .inl (cyI, 40, .inl trow)), (tqo, .inl (cyI, 5, .inl (upd v5 (v4).toNatClampNeg r32))), (u0h, .inr (0, [.ref u0qa, .ref u0qb, .ref u0qc, .ref u0zh, .int u0dd, .int u0sz])), (u0qa, .inl (cyI, 40, .inl u0fa)), (u0qb, .inl (cyI, 40, .inl u0fb)), (u0qc, .inl (cyI, 40, .inl u0fc)), (u0zh, .inr (1, [.int w33, .int w34, .int w35, .int w36, .int w37, .int w38, .int w39, .int w40]))] := hD
                refine lv_istore_n (lv' := [(3, .int r50), (5, .int x27), (4, .int v2), (2, .int v4), (0, .ref th), (1, .ref u0h)]) hx hb dX2_valueIn_147 rfl hl (by decide) rfl (fun ls hl => ?_)
                obtain ⟨x52, ex52⟩ : ∃ y : Int32, y = (v2 + (1 : Int32)) := ⟨_, rfl⟩
                have h := dm_lu ex52 h
                refine lv_iinc (v := x52) (lv' := [(4, .int x52), (3, .int r50), (5, .int x27), (2, .int v4), (0, .ref th), (1, .ref u0h)]) hx hb dX2_valueIn_148 hl (k := 2) rfl (by rw [ex52]; rfl) (by decide) rfl (fun ls hl => ?_)
                refine lv_goto (tgt := 14) hx hb dX2_valueIn_151 (by decide) ?_
                exact ih14 x52 r50 v4 (upd v5 (v4).toNatClampNeg r32) w33 w34 w35 w36 w37 w38 w39 w40 H _ ls h (hP.sub [0, 1, 2, 3, 4, 5, 6, 7] rfl) (hD.sub [0, 1, 2, 3, 4, 5, 6, 7] (by decide) rfl) hS (lv_sub hl [0, 1, 3, 4, 5] rfl)
              · have h := dm_f hc47 h
                refine lv_iload hx hb dX2_valueIn_130 (lv_at hl 0 rfl) ?_
                obtain ⟨r53, hk54, h⟩ := dm_b1s h
                refine mc_i (wr := [(th, .inr (2, [.ref tqr, .ref tqo, .int tlen])), (tqr, .inl (cyI, 40, .inl trow)), (tqo, .inl (cyI, 5, .inl (upd v5 (v4).toNatClampNeg r32))), (u0h, .inr (0, [.ref u0qa, .ref u0qb, .ref u0qc, .ref u0zh, .int u0dd, .int u0sz])), (u0qa, .inl (cyI, 40, .inl u0fa)), (u0qb, .inl (cyI, 40, .inl u0fb)), (u0qc, .inl (cyI, 40, .inl u0fc)), (u0zh, .inr (1, [.int w33, .int w34, .int w35, .int w36, .int w37, .int w38, .int w39, .int w40]))]) (va_runS (As := [.int x27]) (rest := []) ⟨hx, hb, hml, hown, hts⟩ (c_X2_numberOf l dC dI cyI cyJ cyC H.size x27 r53 hk54) (va_cwS 1 hts gX2_valueIn_X2_numberOf rfl rfl rfl (by decide +kernel) ⟨(Nat.le_of_ble_eq_true rfl), (Nat.le_of_ble_eq_true rfl)⟩) (mc_preS hK (hP.sub (ws' := []) [] rfl) (hD.sub (ws' := []) [] (by decide) rfl) hnw) rfl rfl hl.1 rfl (lv_room (Nat.le_of_ble_eq_true rfl)) dX2_valueIn_132 ⟨Nat.zero_le _, Nat.zero_le _⟩) hP hD hS hA [] [0, 1, 2, 3, 4, 5, 6, 7] rfl rfl rfl (by decide) (fun H locs hP hD hS => ?_)
                have hP : va_P (dC, dI) vwCl [(th, .inr (2, [.ref tqr, .ref tqo, .int tlen])), (tqr, .inl (cyI, 40, .inl trow)), (tqo, .inl (cyI, 5, .inl (upd v5 (v4).toNatClampNeg r32))), (u0h, .inr (0, [.ref u0qa, .ref u0qb, .ref u0qc, .ref u0zh, .int u0dd, .int u0sz])), (u0qa, .inl (cyI, 40, .inl u0fa)), (u0qb, .inl (cyI, 40, .inl u0fb)), (u0qc, .inl (cyI, 40, .inl u0fc)), (u0zh, .inr (1, [.int w33, .int w34, .int w35, .int w36, .int w37, .int w38, .int w39, .int w40]))] H := hP
                have hD : va_D A [(th, .inr (2, [.ref tqr, .ref tqo, .int tlen])), (tqr, .inl (cyI, 40, .inl trow)), (tqo, .inl (cyI, 5, .inl (upd v5 (v4).toNatClampNeg r32))), (u0h, .inr (0, [.ref u0qa, .ref u0qb, .ref u0qc, .ref u0zh, .int u0dd, .int u0sz])), (u0qa, .inl (cyI, 40, .inl u0fa)), (u0qb, .inl (cyI, 40, .inl u0fb)), (u0qc, .inl (cyI, 40, .inl u0fc)), (u0zh, .inr (1, [.int w33, .int w34, .int w35, .int w36, .int w37, .int w38, .int w39, .int w40]))] := hD
                refine lv_goto (tgt := 147) hx hb dX2_valueIn_135 (by decide) ?_
                refine lv_istore_n (lv' := [(3, .int r53), (5, .int x27), (4, .int v2), (2, .int v4), (0, .ref th), (1, .ref u0h)]) hx hb dX2_valueIn_147 rfl hl (by decide) rfl (fun ls hl => ?_)
                obtain ⟨x55, ex55⟩ : ∃ y : Int32, y = (v2 + (1 : Int32)) := ⟨_, rfl⟩
                have h := dm_lu ex55 h
                refine lv_iinc (v := x55) (lv' := [(4, .int x55), (3, .int r53), (5, .int x27), (2, .int v4), (0, .ref th), (1, .ref u0h)]) hx hb dX2_valueIn_148 hl (k := 2) rfl (by rw [ex55]; rfl) (by decide) rfl (fun ls hl => ?_)
                refine lv_goto (tgt := 14) hx hb dX2_valueIn_151 (by decide) ?_
                exact ih14 x55 r53 v4 (upd v5 (v4).toNatClampNeg r32) w33 w34 w35 w36 w37 w38 w39 w40 H _ ls h (hP.sub [0, 1, 2, 3, 4, 5, 6, 7] rfl) (hD.sub [0, 1, 2, 3, 4, 5, 6, 7] (by decide) rfl) hS (lv_sub hl [0, 1, 3, 4, 5] rfl)
            · have h := dm_t hc44 h
              refine lv_iload_n hx hb dX2_valueIn_105 rfl (lv_at hl 3 rfl) ?_
              refine lv_if_le (tgt := 122) hx hb dX2_valueIn_106 (by decide) (fun hc56 => ?_) (fun hc56 => ?_)
              · have h := dm_t hc56 h
                refine lv_iload hx hb dX2_valueIn_122 (lv_at hl 0 rfl) ?_
                obtain ⟨r57, hk58, h⟩ := dm_b1s h
                refine mc_i (wr := [(th, .inr (2, [.ref tqr, .ref tqo, .int tlen])), (tqr, .inl (cyI, 40, .inl trow)), (tqo, .inl (cyI, 5, .inl (upd v5 (v4).toNatClampNeg r32))), (u0h, .inr (0, [.ref u0qa, .ref u0qb, .ref u0qc, .ref u0zh, .int u0dd, .int u0sz])), (u0qa, .inl (cyI, 40, .inl u0fa)), (u0qb, .inl (cyI, 40, .inl u0fb)), (u0qc, .inl (cyI, 40, .inl u0fc)), (u0zh, .inr (1, [.int w33, .int w34, .int w35, .int w36, .int w37, .int w38, .int w39, .int w40]))]) (va_runS (As := [.int x27]) (rest := []) ⟨hx, hb, hml, hown, hts⟩ (c_X2_isCapital l dC dI cyI cyJ cyC H.size x27 r57 hk58) (va_cwS 1 hts gX2_valueIn_X2_isCapital rfl rfl rfl (by decide +kernel) ⟨(Nat.le_of_ble_eq_true rfl), (Nat.le_of_ble_eq_true rfl)⟩) (mc_preS hK (hP.sub (ws' := []) [] rfl) (hD.sub (ws' := []) [] (by decide) rfl) hnw) rfl rfl hl.1 rfl (lv_room (Nat.le_of_ble_eq_true rfl)) dX2_valueIn_124 ⟨Nat.zero_le _, Nat.zero_le _⟩) hP hD hS hA [] [0, 1, 2, 3, 4, 5, 6, 7] rfl rfl rfl (by decide) (fun H locs hP hD hS => ?_)
                have hP : va_P (dC, dI) vwCl [(th, .inr (2, [.ref tqr, .ref tqo, .int tlen])), (tqr, .inl (cyI, 40, .inl trow)), (tqo, .inl (cyI, 5, .inl (upd v5 (v4).toNatClampNeg r32))), (u0h, .inr (0, [.ref u0qa, .ref u0qb, .ref u0qc, .ref u0zh, .int u0dd, .int u0sz])), (u0qa, .inl (cyI, 40, .inl u0fa)), (u0qb, .inl (cyI, 40, .inl u0fb)), (u0qc, .inl (cyI, 40, .inl u0fc)), (u0zh, .inr (1, [.int w33, .int w34, .int w35, .int w36, .int w37, .int w38, .int w39, .int w40]))] H := hP
                have hD : va_D A [(th, .inr (2, [.ref tqr, .ref tqo, .int tlen])), (tqr, .inl (cyI, 40, .inl trow)), (tqo, .inl (cyI, 5, .inl (upd v5 (v4).toNatClampNeg r32))), (u0h, .inr (0, [.ref u0qa, .ref u0qb, .ref u0qc, .ref u0zh, .int u0dd, .int u0sz])), (u0qa, .inl (cyI, 40, .inl u0fa)), (u0qb, .inl (cyI, 40, .inl u0fb)), (u0qc, .inl (cyI, 40, .inl u0fc)), (u0zh, .inr (1, [.int w33, .int w34, .int w35, .int w36, .int w37, .int w38, .int w39, .int w40]))] := hD
                refine lv_if_eq (tgt := 138) hx hb dX2_valueIn_127 (by decide) (fun hc59 => ?_) (fun hc59 => ?_)
                · have h := dm_t hc59 h
                  refine lv_aload_n hx hb dX2_valueIn_138 rfl (lv_at hl 5 rfl) ?_
                  refine lv_iload hx hb dX2_valueIn_139 (lv_at hl 0 rfl) ?_
                  obtain ⟨r60, hk61, h⟩ := dm_b1s h
                  refine mc_i (wr := [(th, .inr (2, [.ref tqr, .ref tqo, .int tlen])), (tqr, .inl (cyI, 40, .inl trow)), (tqo, .inl (cyI, 5, .inl (upd v5 (v4).toNatClampNeg r32))), (u0h, .inr (0, [.ref u0qa, .ref u0qb, .ref u0qc, .ref u0zh, .int u0dd, .int u0sz])), (u0qa, .inl (cyI, 40, .inl u0fa)), (u0qb, .inl (cyI, 40, .inl u0fb)), (u0qc, .inl (cyI, 40, .inl u0fc)), (u0zh, .inr (1, [.int w33, .int w34, .int w35, .int w36, .int w37, .int w38, .int w39, .int w40]))]) (va_runS (As := [.int x27]) (rest := [.ref u0h]) ⟨hx, hb, hml, hown, hts⟩ (c_X2_numberOf l dC dI cyI cyJ cyC H.size x27 r60 hk61) (va_cwS 1 hts gX2_valueIn_X2_numberOf rfl rfl rfl (by decide +kernel) ⟨(Nat.le_of_ble_eq_true rfl), (Nat.le_of_ble_eq_true rfl)⟩) (mc_preS hK (hP.sub (ws' := []) [] rfl) (hD.sub (ws' := []) [] (by decide) rfl) hnw) rfl rfl hl.1 rfl (lv_room (Nat.le_of_ble_eq_true rfl)) dX2_valueIn_141 ⟨Nat.zero_le _, Nat.zero_le _⟩) hP hD hS hA [] [0, 1, 2, 3, 4, 5, 6, 7] rfl rfl rfl (by decide) (fun H locs hP hD hS => ?_)
                  have hP : va_P (dC, dI) vwCl [(th, .inr (2, [.ref tqr, .ref tqo, .int tlen])), (tqr, .inl (cyI, 40, .inl trow)), (tqo, .inl (cyI, 5, .inl (upd v5 (v4).toNatClampNeg r32))), (u0h, .inr (0, [.ref u0qa, .ref u0qb, .ref u0qc, .ref u0zh, .int u0dd, .int u0sz])), (u0qa, .inl (cyI, 40, .inl u0fa)), (u0qb, .inl (cyI, 40, .inl u0fb)), (u0qc, .inl (cyI, 40, .inl u0fc)), (u0zh, .inr (1, [.int w33, .int w34, .int w35, .int w36, .int w37, .int w38, .int w39, .int w40]))] H := hP
                  have hD : va_D A [(th, .inr (2, [.ref tqr, .ref tqo, .int tlen])), (tqr, .inl (cyI, 40, .inl trow)), (tqo, .inl (cyI, 5, .inl (upd v5 (v4).toNatClampNeg r32))), (u0h, .inr (0, [.ref u0qa, .ref u0qb, .ref u0qc, .ref u0zh, .int u0dd, .int u0sz])), (u0qa, .inl (cyI, 40, .inl u0fa)), (u0qb, .inl (cyI, 40, .inl u0fb)), (u0qc, .inl (cyI, 40, .inl u0fc)), (u0zh, .inr (1, [.int w33, .int w34, .int w35, .int w36, .int w37, .int w38, .int w39, .int w40]))] := hD
                  obtain ⟨r62, hk63, h⟩ := dm_b1s h
                  refine mc_i (wr := [(th, .inr (2, [.ref tqr, .ref tqo, .int tlen])), (tqr, .inl (cyI, 40, .inl trow)), (tqo, .inl (cyI, 5, .inl (upd v5 (v4).toNatClampNeg r32)))]) (va_runV (As := [.int r60]) (rest := []) ⟨hx, hb, hml, hown, hts⟩ (c_X0_opposite l dC dI cyI cyJ cyC u0h u0qa u0qb u0qc u0zh H.size u0fa u0fb u0fc u0dd u0sz w33 w34 w35 w36 w37 w38 w39 w40 r60 r62 hk63) (cwV 1 hts gX2_valueIn_X0_opposite rfl rfl rfl (by decide +kernel) ⟨(Nat.le_of_ble_eq_true rfl), (Nat.le_of_ble_eq_true rfl)⟩) (mc_preV hK (hP.sub (ws' := [(u0h, .inr (0, [.ref u0qa, .ref u0qb, .ref u0qc, .ref u0zh, .int u0dd, .int u0sz])), (u0qa, .inl (cyI, 40, .inl u0fa)), (u0qb, .inl (cyI, 40, .inl u0fb)), (u0qc, .inl (cyI, 40, .inl u0fc)), (u0zh, .inr (1, [.int w33, .int w34, .int w35, .int w36, .int w37, .int w38, .int w39, .int w40]))]) [3, 4, 5, 6, 7] rfl) (hD.sub (ws' := [(u0h, .inr (0, [.ref u0qa, .ref u0qb, .ref u0qc, .ref u0zh, .int u0dd, .int u0sz])), (u0qa, .inl (cyI, 40, .inl u0fa)), (u0qb, .inl (cyI, 40, .inl u0fb)), (u0qc, .inl (cyI, 40, .inl u0fc)), (u0zh, .inr (1, [.int w33, .int w34, .int w35, .int w36, .int w37, .int w38, .int w39, .int w40]))]) [3, 4, 5, 6, 7] (by decide) rfl) hnw rfl rfl) rfl rfl hl.1 rfl (lv_room (Nat.le_of_ble_eq_true rfl)) dX2_valueIn_144 ⟨Nat.zero_le _, Nat.zero_le _⟩) hP hD hS hA [3, 4, 5, 6, 7] [0, 1, 2] rfl rfl rfl (by decide) (fun H locs hP hD hS => ?_)
                  have hP : va_P (dC, dI) vwCl [(th, .inr (2, [.ref tqr, .ref tqo, .int tlen])), (tqr, .inl (cyI, 40, .inl trow)), (tqo, .inl (cyI, 5, .inl (upd v5 (v4).toNatClampNeg r32))), (u0h, .inr (0, [.ref u0qa, .ref u0qb, .ref u0qc, .ref u0zh, .int u0dd, .int u0sz])), (u0qa, .inl (cyI, 40, .inl u0fa)), (u0qb, .inl (cyI, 40, .inl u0fb)), (u0qc, .inl (cyI, 40, .inl u0fc)), (u0zh, .inr (1, [.int w33, .int w34, .int w35, .int w36, .int w37, .int w38, .int w39, .int w40]))] H := hP
                  have hD : va_D A [(th, .inr (2, [.ref tqr, .ref tqo, .int tlen])), (tqr, .inl (cyI, 40, .inl trow)), (tqo, .inl (cyI, 5, .inl (upd v5 (v4).toNatClampNeg r32))), (u0h, .inr (0, [.ref u0qa, .ref u0qb, .ref u0qc, .ref u0zh, .int u0dd, .int u0sz])), (u0qa, .inl (cyI, 40, .inl u0fa)), (u0qb, .inl (cyI, 40, .inl u0fb)), (u0qc, .inl (cyI, 40, .inl u0fc)), (u0zh, .inr (1, [.int w33, .int w34, .int w35, .int w36, .int w37, .int w38, .int w39, .int w40]))] := hD
                  refine lv_istore_n (lv' := [(3, .int r62), (5, .int x27), (4, .int v2), (2, .int v4), (0, .ref th), (1, .ref u0h)]) hx hb dX2_valueIn_147 rfl hl (by decide) rfl (fun ls hl => ?_)
                  obtain ⟨x64, ex64⟩ : ∃ y : Int32, y = (v2 + (1 : Int32)) := ⟨_, rfl⟩
                  have h := dm_lu ex64 h
                  refine lv_iinc (v := x64) (lv' := [(4, .int x64), (3, .int r62), (5, .int x27), (2, .int v4), (0, .ref th), (1, .ref u0h)]) hx hb dX2_valueIn_148 hl (k := 2) rfl (by rw [ex64]; rfl) (by decide) rfl (fun ls hl => ?_)
                  refine lv_goto (tgt := 14) hx hb dX2_valueIn_151 (by decide) ?_
                  exact ih14 x64 r62 v4 (upd v5 (v4).toNatClampNeg r32) w33 w34 w35 w36 w37 w38 w39 w40 H _ ls h (hP.sub [0, 1, 2, 3, 4, 5, 6, 7] rfl) (hD.sub [0, 1, 2, 3, 4, 5, 6, 7] (by decide) rfl) hS (lv_sub hl [0, 1, 3, 4, 5] rfl)
                · have h := dm_f hc59 h
                  refine lv_iload hx hb dX2_valueIn_130 (lv_at hl 0 rfl) ?_
                  obtain ⟨r65, hk66, h⟩ := dm_b1s h
                  refine mc_i (wr := [(th, .inr (2, [.ref tqr, .ref tqo, .int tlen])), (tqr, .inl (cyI, 40, .inl trow)), (tqo, .inl (cyI, 5, .inl (upd v5 (v4).toNatClampNeg r32))), (u0h, .inr (0, [.ref u0qa, .ref u0qb, .ref u0qc, .ref u0zh, .int u0dd, .int u0sz])), (u0qa, .inl (cyI, 40, .inl u0fa)), (u0qb, .inl (cyI, 40, .inl u0fb)), (u0qc, .inl (cyI, 40, .inl u0fc)), (u0zh, .inr (1, [.int w33, .int w34, .int w35, .int w36, .int w37, .int w38, .int w39, .int w40]))]) (va_runS (As := [.int x27]) (rest := []) ⟨hx, hb, hml, hown, hts⟩ (c_X2_numberOf l dC dI cyI cyJ cyC H.size x27 r65 hk66) (va_cwS 1 hts gX2_valueIn_X2_numberOf rfl rfl rfl (by decide +kernel) ⟨(Nat.le_of_ble_eq_true rfl), (Nat.le_of_ble_eq_true rfl)⟩) (mc_preS hK (hP.sub (ws' := []) [] rfl) (hD.sub (ws' := []) [] (by decide) rfl) hnw) rfl rfl hl.1 rfl (lv_room (Nat.le_of_ble_eq_true rfl)) dX2_valueIn_132 ⟨Nat.zero_le _, Nat.zero_le _⟩) hP hD hS hA [] [0, 1, 2, 3, 4, 5, 6, 7] rfl rfl rfl (by decide) (fun H locs hP hD hS => ?_)
                  have hP : va_P (dC, dI) vwCl [(th, .inr (2, [.ref tqr, .ref tqo, .int tlen])), (tqr, .inl (cyI, 40, .inl trow)), (tqo, .inl (cyI, 5, .inl (upd v5 (v4).toNatClampNeg r32))), (u0h, .inr (0, [.ref u0qa, .ref u0qb, .ref u0qc, .ref u0zh, .int u0dd, .int u0sz])), (u0qa, .inl (cyI, 40, .inl u0fa)), (u0qb, .inl (cyI, 40, .inl u0fb)), (u0qc, .inl (cyI, 40, .inl u0fc)), (u0zh, .inr (1, [.int w33, .int w34, .int w35, .int w36, .int w37, .int w38, .int w39, .int w40]))] H := hP
                  have hD : va_D A [(th, .inr (2, [.ref tqr, .ref tqo, .int tlen])), (tqr, .inl (cyI, 40, .inl trow)), (tqo, .inl (cyI, 5, .inl (upd v5 (v4).toNatClampNeg r32))), (u0h, .inr (0, [.ref u0qa, .ref u0qb, .ref u0qc, .ref u0zh, .int u0dd, .int u0sz])), (u0qa, .inl (cyI, 40, .inl u0fa)), (u0qb, .inl (cyI, 40, .inl u0fb)), (u0qc, .inl (cyI, 40, .inl u0fc)), (u0zh, .inr (1, [.int w33, .int w34, .int w35, .int w36, .int w37, .int w38, .int w39, .int w40]))] := hD
                  refine lv_goto (tgt := 147) hx hb dX2_valueIn_135 (by decide) ?_
                  refine lv_istore_n (lv' := [(3, .int r65), (5, .int x27), (4, .int v2), (2, .int v4), (0, .ref th), (1, .ref u0h)]) hx hb dX2_valueIn_147 rfl hl (by decide) rfl (fun ls hl => ?_)
                  obtain ⟨x67, ex67⟩ : ∃ y : Int32, y = (v2 + (1 : Int32)) := ⟨_, rfl⟩
                  have h := dm_lu ex67 h
                  refine lv_iinc (v := x67) (lv' := [(4, .int x67), (3, .int r65), (5, .int x27), (2, .int v4), (0, .ref th), (1, .ref u0h)]) hx hb dX2_valueIn_148 hl (k := 2) rfl (by rw [ex67]; rfl) (by decide) rfl (fun ls hl => ?_)
                  refine lv_goto (tgt := 14) hx hb dX2_valueIn_151 (by decide) ?_
                  exact ih14 x67 r65 v4 (upd v5 (v4).toNatClampNeg r32) w33 w34 w35 w36 w37 w38 w39 w40 H _ ls h (hP.sub [0, 1, 2, 3, 4, 5, 6, 7] rfl) (hD.sub [0, 1, 2, 3, 4, 5, 6, 7] (by decide) rfl) hS (lv_sub hl [0, 1, 3, 4, 5] rfl)
              · have h := dm_f hc56 h
                refine lv_aload_n hx hb dX2_valueIn_109 rfl (lv_at hl 4 rfl) ?_
                refine va_get (D := (dC, dI)) (ci := 2) (v := .ref tqo) (C := RX2) (T := TX2) (N := 3) hx hb hts hinX2 hown hK hP 0 rfl rfl 1 (by decide) (hts (.fieldLink RX2 15 "FormDesk$Word" "open" "[I") (by decide +kernel)) (fun _ h9 => h9) rfl dX2_valueIn_110 ?_
                refine lv_iload_n hx hb dX2_valueIn_113 rfl (lv_at hl 3 rfl) ?_
                obtain ⟨hn68, h⟩ := dm_gs h
                refine va_iald hx hb hK hP 2 0 rfl rfl hn68 dX2_valueIn_114 ?_
                refine lv_topi (fun x69 ex69 => ?_)
                have h := dm_lu ex69 h
                refine lv_istore_n (lv' := [(3, .int x69), (5, .int x27), (4, .int v2), (2, .int v4), (0, .ref th), (1, .ref u0h)]) hx hb dX2_valueIn_115 rfl hl (by decide) rfl (fun ls hl => ?_)
                obtain ⟨x70, ex70⟩ : ∃ y : Int32, y = (v4 + (-1 : Int32)) := ⟨_, rfl⟩
                have h := dm_lu ex70 h
                refine lv_iinc (v := x70) (lv' := [(2, .int x70), (3, .int x69), (5, .int x27), (4, .int v2), (0, .ref th), (1, .ref u0h)]) hx hb dX2_valueIn_116 hl (k := 3) rfl (by rw [ex70]; rfl) (by decide) rfl (fun ls hl => ?_)
                refine lv_goto (tgt := 148) hx hb dX2_valueIn_119 (by decide) ?_
                obtain ⟨x71, ex71⟩ : ∃ y : Int32, y = (v2 + (1 : Int32)) := ⟨_, rfl⟩
                have h := dm_lu ex71 h
                refine lv_iinc (v := x71) (lv' := [(4, .int x71), (2, .int x70), (3, .int x69), (5, .int x27), (0, .ref th), (1, .ref u0h)]) hx hb dX2_valueIn_148 hl (k := 3) rfl (by rw [ex71]; rfl) (by decide) rfl (fun ls hl => ?_)
                refine lv_goto (tgt := 14) hx hb dX2_valueIn_151 (by decide) ?_
                exact ih14 x71 x69 x70 (upd v5 (v4).toNatClampNeg r32) w33 w34 w35 w36 w37 w38 w39 w40 H _ ls h (hP.sub [0, 1, 2, 3, 4, 5, 6, 7] rfl) (hD.sub [0, 1, 2, 3, 4, 5, 6, 7] (by decide) rfl) hS (lv_sub hl [0, 2, 1, 4, 5] rfl)
          · have h := dm_t hc43 h
            refine lv_iload_n hx hb dX2_valueIn_78 rfl (lv_at hl 3 rfl) ?_
            refine lv_iconst (v := 4) hx hb dX2_valueIn_79 (by decide) ?_
            refine lv_icmp_ge (tgt := 98) hx hb dX2_valueIn_80 (by decide) (fun hc72 => ?_) (fun hc72 => ?_)
            · have h := dm_t hc72 h
              refine lv_iload hx hb dX2_valueIn_98 (lv_at hl 0 rfl) ?_
              refine lv_bipush (v := 41) hx hb dX2_valueIn_100 (by decide) ?_
              refine lv_icmp_ne (tgt := 122) hx hb dX2_valueIn_102 (by decide) (fun hc73 => ?_) (fun hc73 => ?_)
              · have h := dm_f hc73 h
                refine lv_iload hx hb dX2_valueIn_122 (lv_at hl 0 rfl) ?_
                obtain ⟨r74, hk75, h⟩ := dm_b1s h
                refine mc_i (wr := [(th, .inr (2, [.ref tqr, .ref tqo, .int tlen])), (tqr, .inl (cyI, 40, .inl trow)), (tqo, .inl (cyI, 5, .inl (upd v5 (v4).toNatClampNeg r32))), (u0h, .inr (0, [.ref u0qa, .ref u0qb, .ref u0qc, .ref u0zh, .int u0dd, .int u0sz])), (u0qa, .inl (cyI, 40, .inl u0fa)), (u0qb, .inl (cyI, 40, .inl u0fb)), (u0qc, .inl (cyI, 40, .inl u0fc)), (u0zh, .inr (1, [.int w33, .int w34, .int w35, .int w36, .int w37, .int w38, .int w39, .int w40]))]) (va_runS (As := [.int x27]) (rest := []) ⟨hx, hb, hml, hown, hts⟩ (c_X2_isCapital l dC dI cyI cyJ cyC H.size x27 r74 hk75) (va_cwS 1 hts gX2_valueIn_X2_isCapital rfl rfl rfl (by decide +kernel) ⟨(Nat.le_of_ble_eq_true rfl), (Nat.le_of_ble_eq_true rfl)⟩) (mc_preS hK (hP.sub (ws' := []) [] rfl) (hD.sub (ws' := []) [] (by decide) rfl) hnw) rfl rfl hl.1 rfl (lv_room (Nat.le_of_ble_eq_true rfl)) dX2_valueIn_124 ⟨Nat.zero_le _, Nat.zero_le _⟩) hP hD hS hA [] [0, 1, 2, 3, 4, 5, 6, 7] rfl rfl rfl (by decide) (fun H locs hP hD hS => ?_)
                have hP : va_P (dC, dI) vwCl [(th, .inr (2, [.ref tqr, .ref tqo, .int tlen])), (tqr, .inl (cyI, 40, .inl trow)), (tqo, .inl (cyI, 5, .inl (upd v5 (v4).toNatClampNeg r32))), (u0h, .inr (0, [.ref u0qa, .ref u0qb, .ref u0qc, .ref u0zh, .int u0dd, .int u0sz])), (u0qa, .inl (cyI, 40, .inl u0fa)), (u0qb, .inl (cyI, 40, .inl u0fb)), (u0qc, .inl (cyI, 40, .inl u0fc)), (u0zh, .inr (1, [.int w33, .int w34, .int w35, .int w36, .int w37, .int w38, .int w39, .int w40]))] H := hP
                have hD : va_D A [(th, .inr (2, [.ref tqr, .ref tqo, .int tlen])), (tqr, .inl (cyI, 40, .inl trow)), (tqo, .inl (cyI, 5, .inl (upd v5 (v4).toNatClampNeg r32))), (u0h, .inr (0, [.ref u0qa, .ref u0qb, .ref u0qc, .ref u0zh, .int u0dd, .int u0sz])), (u0qa, .inl (cyI, 40, .inl u0fa)), (u0qb, .inl (cyI, 40, .inl u0fb)), (u0qc, .inl (cyI, 40, .inl u0fc)), (u0zh, .inr (1, [.int w33, .int w34, .int w35, .int w36, .int w37, .int w38, .int w39, .int w40]))] := hD
                refine lv_if_eq (tgt := 138) hx hb dX2_valueIn_127 (by decide) (fun hc76 => ?_) (fun hc76 => ?_)
                · have h := dm_t hc76 h
                  refine lv_aload_n hx hb dX2_valueIn_138 rfl (lv_at hl 5 rfl) ?_
                  refine lv_iload hx hb dX2_valueIn_139 (lv_at hl 0 rfl) ?_
                  obtain ⟨r77, hk78, h⟩ := dm_b1s h
                  refine mc_i (wr := [(th, .inr (2, [.ref tqr, .ref tqo, .int tlen])), (tqr, .inl (cyI, 40, .inl trow)), (tqo, .inl (cyI, 5, .inl (upd v5 (v4).toNatClampNeg r32))), (u0h, .inr (0, [.ref u0qa, .ref u0qb, .ref u0qc, .ref u0zh, .int u0dd, .int u0sz])), (u0qa, .inl (cyI, 40, .inl u0fa)), (u0qb, .inl (cyI, 40, .inl u0fb)), (u0qc, .inl (cyI, 40, .inl u0fc)), (u0zh, .inr (1, [.int w33, .int w34, .int w35, .int w36, .int w37, .int w38, .int w39, .int w40]))]) (va_runS (As := [.int x27]) (rest := [.ref u0h]) ⟨hx, hb, hml, hown, hts⟩ (c_X2_numberOf l dC dI cyI cyJ cyC H.size x27 r77 hk78) (va_cwS 1 hts gX2_valueIn_X2_numberOf rfl rfl rfl (by decide +kernel) ⟨(Nat.le_of_ble_eq_true rfl), (Nat.le_of_ble_eq_true rfl)⟩) (mc_preS hK (hP.sub (ws' := []) [] rfl) (hD.sub (ws' := []) [] (by decide) rfl) hnw) rfl rfl hl.1 rfl (lv_room (Nat.le_of_ble_eq_true rfl)) dX2_valueIn_141 ⟨Nat.zero_le _, Nat.zero_le _⟩) hP hD hS hA [] [0, 1, 2, 3, 4, 5, 6, 7] rfl rfl rfl (by decide) (fun H locs hP hD hS => ?_)
                  have hP : va_P (dC, dI) vwCl [(th, .inr (2, [.ref tqr, .ref tqo, .int tlen])), (tqr, .inl (cyI, 40, .inl trow)), (tqo, .inl (cyI, 5, .inl (upd v5 (v4).toNatClampNeg r32))), (u0h, .inr (0, [.ref u0qa, .ref u0qb, .ref u0qc, .ref u0zh, .int u0dd, .int u0sz])), (u0qa, .inl (cyI, 40, .inl u0fa)), (u0qb, .inl (cyI, 40, .inl u0fb)), (u0qc, .inl (cyI, 40, .inl u0fc)), (u0zh, .inr (1, [.int w33, .int w34, .int w35, .int w36, .int w37, .int w38, .int w39, .int w40]))] H := hP
                  have hD : va_D A [(th, .inr (2, [.ref tqr, .ref tqo, .int tlen])), (tqr, .inl (cyI, 40, .inl trow)), (tqo, .inl (cyI, 5, .inl (upd v5 (v4).toNatClampNeg r32))), (u0h, .inr (0, [.ref u0qa, .ref u0qb, .ref u0qc, .ref u0zh, .int u0dd, .int u0sz])), (u0qa, .inl (cyI, 40, .inl u0fa)), (u0qb, .inl (cyI, 40, .inl u0fb)), (u0qc, .inl (cyI, 40, .inl u0fc)), (u0zh, .inr (1, [.int w33, .int w34, .int w35, .int w36, .int w37, .int w38, .int w39, .int w40]))] := hD
                  obtain ⟨r79, hk80, h⟩ := dm_b1s h
                  refine mc_i (wr := [(th, .inr (2, [.ref tqr, .ref tqo, .int tlen])), (tqr, .inl (cyI, 40, .inl trow)), (tqo, .inl (cyI, 5, .inl (upd v5 (v4).toNatClampNeg r32)))]) (va_runV (As := [.int r77]) (rest := []) ⟨hx, hb, hml, hown, hts⟩ (c_X0_opposite l dC dI cyI cyJ cyC u0h u0qa u0qb u0qc u0zh H.size u0fa u0fb u0fc u0dd u0sz w33 w34 w35 w36 w37 w38 w39 w40 r77 r79 hk80) (cwV 1 hts gX2_valueIn_X0_opposite rfl rfl rfl (by decide +kernel) ⟨(Nat.le_of_ble_eq_true rfl), (Nat.le_of_ble_eq_true rfl)⟩) (mc_preV hK (hP.sub (ws' := [(u0h, .inr (0, [.ref u0qa, .ref u0qb, .ref u0qc, .ref u0zh, .int u0dd, .int u0sz])), (u0qa, .inl (cyI, 40, .inl u0fa)), (u0qb, .inl (cyI, 40, .inl u0fb)), (u0qc, .inl (cyI, 40, .inl u0fc)), (u0zh, .inr (1, [.int w33, .int w34, .int w35, .int w36, .int w37, .int w38, .int w39, .int w40]))]) [3, 4, 5, 6, 7] rfl) (hD.sub (ws' := [(u0h, .inr (0, [.ref u0qa, .ref u0qb, .ref u0qc, .ref u0zh, .int u0dd, .int u0sz])), (u0qa, .inl (cyI, 40, .inl u0fa)), (u0qb, .inl (cyI, 40, .inl u0fb)), (u0qc, .inl (cyI, 40, .inl u0fc)), (u0zh, .inr (1, [.int w33, .int w34, .int w35, .int w36, .int w37, .int w38, .int w39, .int w40]))]) [3, 4, 5, 6, 7] (by decide) rfl) hnw rfl rfl) rfl rfl hl.1 rfl (lv_room (Nat.le_of_ble_eq_true rfl)) dX2_valueIn_144 ⟨Nat.zero_le _, Nat.zero_le _⟩) hP hD hS hA [3, 4, 5, 6, 7] [0, 1, 2] rfl rfl rfl (by decide) (fun H locs hP hD hS => ?_)
                  have hP : va_P (dC, dI) vwCl [(th, .inr (2, [.ref tqr, .ref tqo, .int tlen])), (tqr, .inl (cyI, 40, .inl trow)), (tqo, .inl (cyI, 5, .inl (upd v5 (v4).toNatClampNeg r32))), (u0h, .inr (0, [.ref u0qa, .ref u0qb, .ref u0qc, .ref u0zh, .int u0dd, .int u0sz])), (u0qa, .inl (cyI, 40, .inl u0fa)), (u0qb, .inl (cyI, 40, .inl u0fb)), (u0qc, .inl (cyI, 40, .inl u0fc)), (u0zh, .inr (1, [.int w33, .int w34, .int w35, .int w36, .int w37, .int w38, .int w39, .int w40]))] H := hP
                  have hD : va_D A [(th, .inr (2, [.ref tqr, .ref tqo, .int tlen])), (tqr, .inl (cyI, 40, .inl trow)), (tqo, .inl (cyI, 5, .inl (upd v5 (v4).toNatClampNeg r32))), (u0h, .inr (0, [.ref u0qa, .ref u0qb, .ref u0qc, .ref u0zh, .int u0dd, .int u0sz])), (u0qa, .inl (cyI, 40, .inl u0fa)), (u0qb, .inl (cyI, 40, .inl u0fb)), (u0qc, .inl (cyI, 40, .inl u0fc)), (u0zh, .inr (1, [.int w33, .int w34, .int w35, .int w36, .int w37, .int w38, .int w39, .int w40]))] := hD
                  refine lv_istore_n (lv' := [(3, .int r79), (5, .int x27), (4, .int v2), (2, .int v4), (0, .ref th), (1, .ref u0h)]) hx hb dX2_valueIn_147 rfl hl (by decide) rfl (fun ls hl => ?_)
                  obtain ⟨x81, ex81⟩ : ∃ y : Int32, y = (v2 + (1 : Int32)) := ⟨_, rfl⟩
                  have h := dm_lu ex81 h
                  refine lv_iinc (v := x81) (lv' := [(4, .int x81), (3, .int r79), (5, .int x27), (2, .int v4), (0, .ref th), (1, .ref u0h)]) hx hb dX2_valueIn_148 hl (k := 2) rfl (by rw [ex81]; rfl) (by decide) rfl (fun ls hl => ?_)
                  refine lv_goto (tgt := 14) hx hb dX2_valueIn_151 (by decide) ?_
                  exact ih14 x81 r79 v4 (upd v5 (v4).toNatClampNeg r32) w33 w34 w35 w36 w37 w38 w39 w40 H _ ls h (hP.sub [0, 1, 2, 3, 4, 5, 6, 7] rfl) (hD.sub [0, 1, 2, 3, 4, 5, 6, 7] (by decide) rfl) hS (lv_sub hl [0, 1, 3, 4, 5] rfl)
                · have h := dm_f hc76 h
                  refine lv_iload hx hb dX2_valueIn_130 (lv_at hl 0 rfl) ?_
                  obtain ⟨r82, hk83, h⟩ := dm_b1s h
                  refine mc_i (wr := [(th, .inr (2, [.ref tqr, .ref tqo, .int tlen])), (tqr, .inl (cyI, 40, .inl trow)), (tqo, .inl (cyI, 5, .inl (upd v5 (v4).toNatClampNeg r32))), (u0h, .inr (0, [.ref u0qa, .ref u0qb, .ref u0qc, .ref u0zh, .int u0dd, .int u0sz])), (u0qa, .inl (cyI, 40, .inl u0fa)), (u0qb, .inl (cyI, 40, .inl u0fb)), (u0qc, .inl (cyI, 40, .inl u0fc)), (u0zh, .inr (1, [.int w33, .int w34, .int w35, .int w36, .int w37, .int w38, .int w39, .int w40]))]) (va_runS (As := [.int x27]) (rest := []) ⟨hx, hb, hml, hown, hts⟩ (c_X2_numberOf l dC dI cyI cyJ cyC H.size x27 r82 hk83) (va_cwS 1 hts gX2_valueIn_X2_numberOf rfl rfl rfl (by decide +kernel) ⟨(Nat.le_of_ble_eq_true rfl), (Nat.le_of_ble_eq_true rfl)⟩) (mc_preS hK (hP.sub (ws' := []) [] rfl) (hD.sub (ws' := []) [] (by decide) rfl) hnw) rfl rfl hl.1 rfl (lv_room (Nat.le_of_ble_eq_true rfl)) dX2_valueIn_132 ⟨Nat.zero_le _, Nat.zero_le _⟩) hP hD hS hA [] [0, 1, 2, 3, 4, 5, 6, 7] rfl rfl rfl (by decide) (fun H locs hP hD hS => ?_)
                  have hP : va_P (dC, dI) vwCl [(th, .inr (2, [.ref tqr, .ref tqo, .int tlen])), (tqr, .inl (cyI, 40, .inl trow)), (tqo, .inl (cyI, 5, .inl (upd v5 (v4).toNatClampNeg r32))), (u0h, .inr (0, [.ref u0qa, .ref u0qb, .ref u0qc, .ref u0zh, .int u0dd, .int u0sz])), (u0qa, .inl (cyI, 40, .inl u0fa)), (u0qb, .inl (cyI, 40, .inl u0fb)), (u0qc, .inl (cyI, 40, .inl u0fc)), (u0zh, .inr (1, [.int w33, .int w34, .int w35, .int w36, .int w37, .int w38, .int w39, .int w40]))] H := hP
                  have hD : va_D A [(th, .inr (2, [.ref tqr, .ref tqo, .int tlen])), (tqr, .inl (cyI, 40, .inl trow)), (tqo, .inl (cyI, 5, .inl (upd v5 (v4).toNatClampNeg r32))), (u0h, .inr (0, [.ref u0qa, .ref u0qb, .ref u0qc, .ref u0zh, .int u0dd, .int u0sz])), (u0qa, .inl (cyI, 40, .inl u0fa)), (u0qb, .inl (cyI, 40, .inl u0fb)), (u0qc, .inl (cyI, 40, .inl u0fc)), (u0zh, .inr (1, [.int w33, .int w34, .int w35, .int w36, .int w37, .int w38, .int w39, .int w40]))] := hD
                  refine lv_goto (tgt := 147) hx hb dX2_valueIn_135 (by decide) ?_
                  refine lv_istore_n (lv' := [(3, .int r82), (5, .int x27), (4, .int v2), (2, .int v4), (0, .ref th), (1, .ref u0h)]) hx hb dX2_valueIn_147 rfl hl (by decide) rfl (fun ls hl => ?_)
                  obtain ⟨x84, ex84⟩ : ∃ y : Int32, y = (v2 + (1 : Int32)) := ⟨_, rfl⟩
                  have h := dm_lu ex84 h
                  refine lv_iinc (v := x84) (lv' := [(4, .int x84), (3, .int r82), (5, .int x27), (2, .int v4), (0, .ref th), (1, .ref u0h)]) hx hb dX2_valueIn_148 hl (k := 2) rfl (by rw [ex84]; rfl) (by decide) rfl (fun ls hl => ?_)
                  refine lv_goto (tgt := 14) hx hb dX2_valueIn_151 (by decide) ?_
                  exact ih14 x84 r82 v4 (upd v5 (v4).toNatClampNeg r32) w33 w34 w35 w36 w37 w38 w39 w40 H _ ls h (hP.sub [0, 1, 2, 3, 4, 5, 6, 7] rfl) (hD.sub [0, 1, 2, 3, 4, 5, 6, 7] (by decide) rfl) hS (lv_sub hl [0, 1, 3, 4, 5] rfl)
              · have h := dm_t hc73 h
                refine lv_iload_n hx hb dX2_valueIn_105 rfl (lv_at hl 3 rfl) ?_
                refine lv_if_le (tgt := 122) hx hb dX2_valueIn_106 (by decide) (fun hc85 => ?_) (fun hc85 => ?_)
                · have h := dm_t hc85 h
                  refine lv_iload hx hb dX2_valueIn_122 (lv_at hl 0 rfl) ?_
                  obtain ⟨r86, hk87, h⟩ := dm_b1s h
                  refine mc_i (wr := [(th, .inr (2, [.ref tqr, .ref tqo, .int tlen])), (tqr, .inl (cyI, 40, .inl trow)), (tqo, .inl (cyI, 5, .inl (upd v5 (v4).toNatClampNeg r32))), (u0h, .inr (0, [.ref u0qa, .ref u0qb, .ref u0qc, .ref u0zh, .int u0dd, .int u0sz])), (u0qa, .inl (cyI, 40, .inl u0fa)), (u0qb, .inl (cyI, 40, .inl u0fb)), (u0qc, .inl (cyI, 40, .inl u0fc)), (u0zh, .inr (1, [.int w33, .int w34, .int w35, .int w36, .int w37, .int w38, .int w39, .int w40]))]) (va_runS (As := [.int x27]) (rest := []) ⟨hx, hb, hml, hown, hts⟩ (c_X2_isCapital l dC dI cyI cyJ cyC H.size x27 r86 hk87) (va_cwS 1 hts gX2_valueIn_X2_isCapital rfl rfl rfl (by decide +kernel) ⟨(Nat.le_of_ble_eq_true rfl), (Nat.le_of_ble_eq_true rfl)⟩) (mc_preS hK (hP.sub (ws' := []) [] rfl) (hD.sub (ws' := []) [] (by decide) rfl) hnw) rfl rfl hl.1 rfl (lv_room (Nat.le_of_ble_eq_true rfl)) dX2_valueIn_124 ⟨Nat.zero_le _, Nat.zero_le _⟩) hP hD hS hA [] [0, 1, 2, 3, 4, 5, 6, 7] rfl rfl rfl (by decide) (fun H locs hP hD hS => ?_)
                  have hP : va_P (dC, dI) vwCl [(th, .inr (2, [.ref tqr, .ref tqo, .int tlen])), (tqr, .inl (cyI, 40, .inl trow)), (tqo, .inl (cyI, 5, .inl (upd v5 (v4).toNatClampNeg r32))), (u0h, .inr (0, [.ref u0qa, .ref u0qb, .ref u0qc, .ref u0zh, .int u0dd, .int u0sz])), (u0qa, .inl (cyI, 40, .inl u0fa)), (u0qb, .inl (cyI, 40, .inl u0fb)), (u0qc, .inl (cyI, 40, .inl u0fc)), (u0zh, .inr (1, [.int w33, .int w34, .int w35, .int w36, .int w37, .int w38, .int w39, .int w40]))] H := hP
                  have hD : va_D A [(th, .inr (2, [.ref tqr, .ref tqo, .int tlen])), (tqr, .inl (cyI, 40, .inl trow)), (tqo, .inl (cyI, 5, .inl (upd v5 (v4).toNatClampNeg r32))), (u0h, .inr (0, [.ref u0qa, .ref u0qb, .ref u0qc, .ref u0zh, .int u0dd, .int u0sz])), (u0qa, .inl (cyI, 40, .inl u0fa)), (u0qb, .inl (cyI, 40, .inl u0fb)), (u0qc, .inl (cyI, 40, .inl u0fc)), (u0zh, .inr (1, [.int w33, .int w34, .int w35, .int w36, .int w37, .int w38, .int w39, .int w40]))] := hD
                  refine lv_if_eq (tgt := 138) hx hb dX2_valueIn_127 (by decide) (fun hc88 => ?_) (fun hc88 => ?_)
                  · have h := dm_t hc88 h
                    refine lv_aload_n hx hb dX2_valueIn_138 rfl (lv_at hl 5 rfl) ?_
                    refine lv_iload hx hb dX2_valueIn_139 (lv_at hl 0 rfl) ?_
                    obtain ⟨r89, hk90, h⟩ := dm_b1s h
                    refine mc_i (wr := [(th, .inr (2, [.ref tqr, .ref tqo, .int tlen])), (tqr, .inl (cyI, 40, .inl trow)), (tqo, .inl (cyI, 5, .inl (upd v5 (v4).toNatClampNeg r32))), (u0h, .inr (0, [.ref u0qa, .ref u0qb, .ref u0qc, .ref u0zh, .int u0dd, .int u0sz])), (u0qa, .inl (cyI, 40, .inl u0fa)), (u0qb, .inl (cyI, 40, .inl u0fb)), (u0qc, .inl (cyI, 40, .inl u0fc)), (u0zh, .inr (1, [.int w33, .int w34, .int w35, .int w36, .int w37, .int w38, .int w39, .int w40]))]) (va_runS (As := [.int x27]) (rest := [.ref u0h]) ⟨hx, hb, hml, hown, hts⟩ (c_X2_numberOf l dC dI cyI cyJ cyC H.size x27 r89 hk90) (va_cwS 1 hts gX2_valueIn_X2_numberOf rfl rfl rfl (by decide +kernel) ⟨(Nat.le_of_ble_eq_true rfl), (Nat.le_of_ble_eq_true rfl)⟩) (mc_preS hK (hP.sub (ws' := []) [] rfl) (hD.sub (ws' := []) [] (by decide) rfl) hnw) rfl rfl hl.1 rfl (lv_room (Nat.le_of_ble_eq_true rfl)) dX2_valueIn_141 ⟨Nat.zero_le _, Nat.zero_le _⟩) hP hD hS hA [] [0, 1, 2, 3, 4, 5, 6, 7] rfl rfl rfl (by decide) (fun H locs hP hD hS => ?_)
                    have hP : va_P (dC, dI) vwCl [(th, .inr (2, [.ref tqr, .ref tqo, .int tlen])), (tqr, .inl (cyI, 40, .inl trow)), (tqo, .inl (cyI, 5, .inl (upd v5 (v4).toNatClampNeg r32))), (u0h, .inr (0, [.ref u0qa, .ref u0qb, .ref u0qc, .ref u0zh, .int u0dd, .int u0sz])), (u0qa, .inl (cyI, 40, .inl u0fa)), (u0qb, .inl (cyI, 40, .inl u0fb)), (u0qc, .inl (cyI, 40, .inl u0fc)), (u0zh, .inr (1, [.int w33, .int w34, .int w35, .int w36, .int w37, .int w38, .int w39, .int w40]))] H := hP
                    have hD : va_D A [(th, .inr (2, [.ref tqr, .ref tqo, .int tlen])), (tqr, .inl (cyI, 40, .inl trow)), (tqo, .inl (cyI, 5, .inl (upd v5 (v4).toNatClampNeg r32))), (u0h, .inr (0, [.ref u0qa, .ref u0qb, .ref u0qc, .ref u0zh, .int u0dd, .int u0sz])), (u0qa, .inl (cyI, 40, .inl u0fa)), (u0qb, .inl (cyI, 40, .inl u0fb)), (u0qc, .inl (cyI, 40, .inl u0fc)), (u0zh, .inr (1, [.int w33, .int w34, .int w35, .int w36, .int w37, .int w38, .int w39, .int w40]))] := hD
                    obtain ⟨r91, hk92, h⟩ := dm_b1s h
                    refine mc_i (wr := [(th, .inr (2, [.ref tqr, .ref tqo, .int tlen])), (tqr, .inl (cyI, 40, .inl trow)), (tqo, .inl (cyI, 5, .inl (upd v5 (v4).toNatClampNeg r32)))]) (va_runV (As := [.int r89]) (rest := []) ⟨hx, hb, hml, hown, hts⟩ (c_X0_opposite l dC dI cyI cyJ cyC u0h u0qa u0qb u0qc u0zh H.size u0fa u0fb u0fc u0dd u0sz w33 w34 w35 w36 w37 w38 w39 w40 r89 r91 hk92) (cwV 1 hts gX2_valueIn_X0_opposite rfl rfl rfl (by decide +kernel) ⟨(Nat.le_of_ble_eq_true rfl), (Nat.le_of_ble_eq_true rfl)⟩) (mc_preV hK (hP.sub (ws' := [(u0h, .inr (0, [.ref u0qa, .ref u0qb, .ref u0qc, .ref u0zh, .int u0dd, .int u0sz])), (u0qa, .inl (cyI, 40, .inl u0fa)), (u0qb, .inl (cyI, 40, .inl u0fb)), (u0qc, .inl (cyI, 40, .inl u0fc)), (u0zh, .inr (1, [.int w33, .int w34, .int w35, .int w36, .int w37, .int w38, .int w39, .int w40]))]) [3, 4, 5, 6, 7] rfl) (hD.sub (ws' := [(u0h, .inr (0, [.ref u0qa, .ref u0qb, .ref u0qc, .ref u0zh, .int u0dd, .int u0sz])), (u0qa, .inl (cyI, 40, .inl u0fa)), (u0qb, .inl (cyI, 40, .inl u0fb)), (u0qc, .inl (cyI, 40, .inl u0fc)), (u0zh, .inr (1, [.int w33, .int w34, .int w35, .int w36, .int w37, .int w38, .int w39, .int w40]))]) [3, 4, 5, 6, 7] (by decide) rfl) hnw rfl rfl) rfl rfl hl.1 rfl (lv_room (Nat.le_of_ble_eq_true rfl)) dX2_valueIn_144 ⟨Nat.zero_le _, Nat.zero_le _⟩) hP hD hS hA [3, 4, 5, 6, 7] [0, 1, 2] rfl rfl rfl (by decide) (fun H locs hP hD hS => ?_)
                    have hP : va_P (dC, dI) vwCl [(th, .inr (2, [.ref tqr, .ref tqo, .int tlen])), (tqr, .inl (cyI, 40, .inl trow)), (tqo, .inl (cyI, 5, .inl (upd v5 (v4).toNatClampNeg r32))), (u0h, .inr (0, [.ref u0qa, .ref u0qb, .ref u0qc, .ref u0zh, .int u0dd, .int u0sz])), (u0qa, .inl (cyI, 40, .inl u0fa)), (u0qb, .inl (cyI, 40, .inl u0fb)), (u0qc, .inl (cyI, 40, .inl u0fc)), (u0zh, .inr (1, [.int w33, .int w34, .int w35, .int w36, .int w37, .int w38, .int w39, .int w40]))] H := hP
                    have hD : va_D A [(th, .inr (2, [.ref tqr, .ref tqo, .int tlen])), (tqr, .inl (cyI, 40, .inl trow)), (tqo, .inl (cyI, 5, .inl (upd v5 (v4).toNatClampNeg r32))), (u0h, .inr (0, [.ref u0qa, .ref u0qb, .ref u0qc, .ref u0zh, .int u0dd, .int u0sz])), (u0qa, .inl (cyI, 40, .inl u0fa)), (u0qb, .inl (cyI, 40, .inl u0fb)), (u0qc, .inl (cyI, 40, .inl u0fc)), (u0zh, .inr (1, [.int w33, .int w34, .int w35, .int w36, .int w37, .int w38, .int w39, .int w40]))] := hD
                    refine lv_istore_n (lv' := [(3, .int r91), (5, .int x27), (4, .int v2), (2, .int v4), (0, .ref th), (1, .ref u0h)]) hx hb dX2_valueIn_147 rfl hl (by decide) rfl (fun ls hl => ?_)
                    obtain ⟨x93, ex93⟩ : ∃ y : Int32, y = (v2 + (1 : Int32)) := ⟨_, rfl⟩
                    have h := dm_lu ex93 h
                    refine lv_iinc (v := x93) (lv' := [(4, .int x93), (3, .int r91), (5, .int x27), (2, .int v4), (0, .ref th), (1, .ref u0h)]) hx hb dX2_valueIn_148 hl (k := 2) rfl (by rw [ex93]; rfl) (by decide) rfl (fun ls hl => ?_)
                    refine lv_goto (tgt := 14) hx hb dX2_valueIn_151 (by decide) ?_
                    exact ih14 x93 r91 v4 (upd v5 (v4).toNatClampNeg r32) w33 w34 w35 w36 w37 w38 w39 w40 H _ ls h (hP.sub [0, 1, 2, 3, 4, 5, 6, 7] rfl) (hD.sub [0, 1, 2, 3, 4, 5, 6, 7] (by decide) rfl) hS (lv_sub hl [0, 1, 3, 4, 5] rfl)
                  · have h := dm_f hc88 h
                    refine lv_iload hx hb dX2_valueIn_130 (lv_at hl 0 rfl) ?_
                    obtain ⟨r94, hk95, h⟩ := dm_b1s h
                    refine mc_i (wr := [(th, .inr (2, [.ref tqr, .ref tqo, .int tlen])), (tqr, .inl (cyI, 40, .inl trow)), (tqo, .inl (cyI, 5, .inl (upd v5 (v4).toNatClampNeg r32))), (u0h, .inr (0, [.ref u0qa, .ref u0qb, .ref u0qc, .ref u0zh, .int u0dd, .int u0sz])), (u0qa, .inl (cyI, 40, .inl u0fa)), (u0qb, .inl (cyI, 40, .inl u0fb)), (u0qc, .inl (cyI, 40, .inl u0fc)), (u0zh, .inr (1, [.int w33, .int w34, .int w35, .int w36, .int w37, .int w38, .int w39, .int w40]))]) (va_runS (As := [.int x27]) (rest := []) ⟨hx, hb, hml, hown, hts⟩ (c_X2_numberOf l dC dI cyI cyJ cyC H.size x27 r94 hk95) (va_cwS 1 hts gX2_valueIn_X2_numberOf rfl rfl rfl (by decide +kernel) ⟨(Nat.le_of_ble_eq_true rfl), (Nat.le_of_ble_eq_true rfl)⟩) (mc_preS hK (hP.sub (ws' := []) [] rfl) (hD.sub (ws' := []) [] (by decide) rfl) hnw) rfl rfl hl.1 rfl (lv_room (Nat.le_of_ble_eq_true rfl)) dX2_valueIn_132 ⟨Nat.zero_le _, Nat.zero_le _⟩) hP hD hS hA [] [0, 1, 2, 3, 4, 5, 6, 7] rfl rfl rfl (by decide) (fun H locs hP hD hS => ?_)
                    have hP : va_P (dC, dI) vwCl [(th, .inr (2, [.ref tqr, .ref tqo, .int tlen])), (tqr, .inl (cyI, 40, .inl trow)), (tqo, .inl (cyI, 5, .inl (upd v5 (v4).toNatClampNeg r32))), (u0h, .inr (0, [.ref u0qa, .ref u0qb, .ref u0qc, .ref u0zh, .int u0dd, .int u0sz])), (u0qa, .inl (cyI, 40, .inl u0fa)), (u0qb, .inl (cyI, 40, .inl u0fb)), (u0qc, .inl (cyI, 40, .inl u0fc)), (u0zh, .inr (1, [.int w33, .int w34, .int w35, .int w36, .int w37, .int w38, .int w39, .int w40]))] H := hP
                    have hD : va_D A [(th, .inr (2, [.ref tqr, .ref tqo, .int tlen])), (tqr, .inl (cyI, 40, .inl trow)), (tqo, .inl (cyI, 5, .inl (upd v5 (v4).toNatClampNeg r32))), (u0h, .inr (0, [.ref u0qa, .ref u0qb, .ref u0qc, .ref u0zh, .int u0dd, .int u0sz])), (u0qa, .inl (cyI, 40, .inl u0fa)), (u0qb, .inl (cyI, 40, .inl u0fb)), (u0qc, .inl (cyI, 40, .inl u0fc)), (u0zh, .inr (1, [.int w33, .int w34, .int w35, .int w36, .int w37, .int w38, .int w39, .int w40]))] := hD
                    refine lv_goto (tgt := 147) hx hb dX2_valueIn_135 (by decide) ?_
                    refine lv_istore_n (lv' := [(3, .int r94), (5, .int x27), (4, .int v2), (2, .int v4), (0, .ref th), (1, .ref u0h)]) hx hb dX2_valueIn_147 rfl hl (by decide) rfl (fun ls hl => ?_)
                    obtain ⟨x96, ex96⟩ : ∃ y : Int32, y = (v2 + (1 : Int32)) := ⟨_, rfl⟩
                    have h := dm_lu ex96 h
                    refine lv_iinc (v := x96) (lv' := [(4, .int x96), (3, .int r94), (5, .int x27), (2, .int v4), (0, .ref th), (1, .ref u0h)]) hx hb dX2_valueIn_148 hl (k := 2) rfl (by rw [ex96]; rfl) (by decide) rfl (fun ls hl => ?_)
                    refine lv_goto (tgt := 14) hx hb dX2_valueIn_151 (by decide) ?_
                    exact ih14 x96 r94 v4 (upd v5 (v4).toNatClampNeg r32) w33 w34 w35 w36 w37 w38 w39 w40 H _ ls h (hP.sub [0, 1, 2, 3, 4, 5, 6, 7] rfl) (hD.sub [0, 1, 2, 3, 4, 5, 6, 7] (by decide) rfl) hS (lv_sub hl [0, 1, 3, 4, 5] rfl)
                · have h := dm_f hc85 h
                  refine lv_aload_n hx hb dX2_valueIn_109 rfl (lv_at hl 4 rfl) ?_
                  refine va_get (D := (dC, dI)) (ci := 2) (v := .ref tqo) (C := RX2) (T := TX2) (N := 3) hx hb hts hinX2 hown hK hP 0 rfl rfl 1 (by decide) (hts (.fieldLink RX2 15 "FormDesk$Word" "open" "[I") (by decide +kernel)) (fun _ h9 => h9) rfl dX2_valueIn_110 ?_
                  refine lv_iload_n hx hb dX2_valueIn_113 rfl (lv_at hl 3 rfl) ?_
                  obtain ⟨hn97, h⟩ := dm_gs h
                  refine va_iald hx hb hK hP 2 0 rfl rfl hn97 dX2_valueIn_114 ?_
                  refine lv_topi (fun x98 ex98 => ?_)
                  have h := dm_lu ex98 h
                  refine lv_istore_n (lv' := [(3, .int x98), (5, .int x27), (4, .int v2), (2, .int v4), (0, .ref th), (1, .ref u0h)]) hx hb dX2_valueIn_115 rfl hl (by decide) rfl (fun ls hl => ?_)
                  obtain ⟨x99, ex99⟩ : ∃ y : Int32, y = (v4 + (-1 : Int32)) := ⟨_, rfl⟩
                  have h := dm_lu ex99 h
                  refine lv_iinc (v := x99) (lv' := [(2, .int x99), (3, .int x98), (5, .int x27), (4, .int v2), (0, .ref th), (1, .ref u0h)]) hx hb dX2_valueIn_116 hl (k := 3) rfl (by rw [ex99]; rfl) (by decide) rfl (fun ls hl => ?_)
                  refine lv_goto (tgt := 148) hx hb dX2_valueIn_119 (by decide) ?_
                  obtain ⟨x100, ex100⟩ : ∃ y : Int32, y = (v2 + (1 : Int32)) := ⟨_, rfl⟩
                  have h := dm_lu ex100 h
                  refine lv_iinc (v := x100) (lv' := [(4, .int x100), (2, .int x99), (3, .int x98), (5, .int x27), (0, .ref th), (1, .ref u0h)]) hx hb dX2_valueIn_148 hl (k := 3) rfl (by rw [ex100]; rfl) (by decide) rfl (fun ls hl => ?_)
                  refine lv_goto (tgt := 14) hx hb dX2_valueIn_151 (by decide) ?_
                  exact ih14 x100 x98 x99 (upd v5 (v4).toNatClampNeg r32) w33 w34 w35 w36 w37 w38 w39 w40 H _ ls h (hP.sub [0, 1, 2, 3, 4, 5, 6, 7] rfl) (hD.sub [0, 1, 2, 3, 4, 5, 6, 7] (by decide) rfl) hS (lv_sub hl [0, 2, 1, 4, 5] rfl)
            · have h := dm_f hc72 h
              obtain ⟨x101, ex101⟩ : ∃ y : Int32, y = (v4 + (1 : Int32)) := ⟨_, rfl⟩
              have h := dm_lu ex101 h
              refine lv_iinc (v := x101) (lv' := [(2, .int x101), (5, .int x27), (4, .int v2), (3, .int v3), (0, .ref th), (1, .ref u0h)]) hx hb dX2_valueIn_83 hl (k := 3) rfl (by rw [ex101]; rfl) (by decide) rfl (fun ls hl => ?_)
              refine lv_aload_n hx hb dX2_valueIn_86 rfl (lv_at hl 4 rfl) ?_
              refine va_get (D := (dC, dI)) (ci := 2) (v := .ref tqo) (C := RX2) (T := TX2) (N := 3) hx hb hts hinX2 hown hK hP 0 rfl rfl 1 (by decide) (hts (.fieldLink RX2 15 "FormDesk$Word" "open" "[I") (by decide +kernel)) (fun _ h9 => h9) rfl dX2_valueIn_87 ?_
              refine lv_iload_n hx hb dX2_valueIn_90 rfl (lv_at hl 0 rfl) ?_
              refine lv_iconst (v := 0) hx hb dX2_valueIn_91 (by decide) ?_
              obtain ⟨hn102, h⟩ := dm_gs h
              refine va_iast hx hb hK hP hD hS 2 0 rfl rfl hn102 dX2_valueIn_92 (fun H locs hP hD hS => ?_)
              have hP : va_P (dC, dI) vwCl [(th, .inr (2, [.ref tqr, .ref tqo, .int tlen])), (tqr, .inl (cyI, 40, .inl trow)), (tqo, .inl (cyI, 5, .inl (upd (upd v5 (v4).toNatClampNeg r32) (x101).toNatClampNeg (0 : Int32)))), (u0h, .inr (0, [.ref u0qa, .ref u0qb, .ref u0qc, .ref u0zh, .int u0dd, .int u0sz])), (u0qa, .inl (cyI, 40, .inl u0fa)), (u0qb, .inl (cyI, 40, .inl u0fb)), (u0qc, .inl (cyI, 40, .inl u0fc)), (u0zh, .inr (1, [.int w33, .int w34, .int w35, .int w36, .int w37, .int w38, .int w39, .int w40]))] H := hP
              have hD : va_D A [(th, .inr (2, [.ref tqr, .ref tqo, .int tlen])), (tqr, .inl (cyI, 40, .inl trow)), (tqo, .inl (cyI, 5, .inl (upd (upd v5 (v4).toNatClampNeg r32) (x101).toNatClampNeg (0 : Int32)))), (u0h, .inr (0, [.ref u0qa, .ref u0qb, .ref u0qc, .ref u0zh, .int u0dd, .int u0sz])), (u0qa, .inl (cyI, 40, .inl u0fa)), (u0qb, .inl (cyI, 40, .inl u0fb)), (u0qc, .inl (cyI, 40, .inl u0fc)), (u0zh, .inr (1, [.int w33, .int w34, .int w35, .int w36, .int w37, .int w38, .int w39, .int w40]))] := hD
              refine lv_iconst (v := 0) hx hb dX2_valueIn_93 (by decide) ?_
              refine lv_istore_n (lv' := [(3, .int (0 : Int32)), (2, .int x101), (5, .int x27), (4, .int v2), (0, .ref th), (1, .ref u0h)]) hx hb dX2_valueIn_94 rfl hl (by decide) rfl (fun ls hl => ?_)
              refine lv_goto (tgt := 148) hx hb dX2_valueIn_95 (by decide) ?_
              obtain ⟨x103, ex103⟩ : ∃ y : Int32, y = (v2 + (1 : Int32)) := ⟨_, rfl⟩
              have h := dm_lu ex103 h
              refine lv_iinc (v := x103) (lv' := [(4, .int x103), (3, .int (0 : Int32)), (2, .int x101), (5, .int x27), (0, .ref th), (1, .ref u0h)]) hx hb dX2_valueIn_148 hl (k := 3) rfl (by rw [ex103]; rfl) (by decide) rfl (fun ls hl => ?_)
              refine lv_goto (tgt := 14) hx hb dX2_valueIn_151 (by decide) ?_
              exact ih14 x103 (0 : Int32) x101 (upd (upd v5 (v4).toNatClampNeg r32) (x101).toNatClampNeg (0 : Int32)) w33 w34 w35 w36 w37 w38 w39 w40 H _ ls h (hP.sub [0, 1, 2, 3, 4, 5, 6, 7] rfl) (hD.sub [0, 1, 2, 3, 4, 5, 6, 7] (by decide) rfl) hS (lv_sub hl [0, 1, 2, 4, 5] rfl)
        · have h := dm_f hc30 h
          refine lv_aload_n hx hb dX2_valueIn_40 rfl (lv_at hl 5 rfl) ?_
          refine lv_iload_n hx hb dX2_valueIn_41 rfl (lv_at hl 2 rfl) ?_
          refine lv_iload hx hb dX2_valueIn_42 (lv_at hl 0 rfl) ?_
          refine lv_bipush (v := 48) hx hb dX2_valueIn_44 (by decide) ?_
          refine lv_isub hx hb dX2_valueIn_46 ?_
          obtain ⟨r104, w105, w106, w107, w108, w109, w110, w111, w112, hk113, h⟩ := dm_b9s h
          refine mc_i (wr := [(th, .inr (2, [.ref tqr, .ref tqo, .int tlen])), (tqr, .inl (cyI, 40, .inl trow)), (tqo, .inl (cyI, 5, .inl v5))]) (va_runV (As := [.int v3, .int (x27 - (48 : Int32))]) (rest := []) ⟨hx, hb, hml, hown, hts⟩ (c_X0_raised l dC dI cyI cyJ cyC u0h u0qa u0qb u0qc u0zh H.size u0fa u0fb u0fc u0dd u0sz v6 v7 v8 v9 v10 v11 v12 v13 v3 (x27 - (48 : Int32)) r104 w105 w106 w107 w108 w109 w110 w111 w112 hk113) (cwV 2 hts gX2_valueIn_X0_raised rfl rfl rfl (by decide +kernel) ⟨(Nat.le_of_ble_eq_true rfl), (Nat.le_of_ble_eq_true rfl)⟩) (mc_preV hK (hP.sub (ws' := [(u0h, .inr (0, [.ref u0qa, .ref u0qb, .ref u0qc, .ref u0zh, .int u0dd, .int u0sz])), (u0qa, .inl (cyI, 40, .inl u0fa)), (u0qb, .inl (cyI, 40, .inl u0fb)), (u0qc, .inl (cyI, 40, .inl u0fc)), (u0zh, .inr (1, [.int v6, .int v7, .int v8, .int v9, .int v10, .int v11, .int v12, .int v13]))]) [3, 4, 5, 6, 7] rfl) (hD.sub (ws' := [(u0h, .inr (0, [.ref u0qa, .ref u0qb, .ref u0qc, .ref u0zh, .int u0dd, .int u0sz])), (u0qa, .inl (cyI, 40, .inl u0fa)), (u0qb, .inl (cyI, 40, .inl u0fb)), (u0qc, .inl (cyI, 40, .inl u0fc)), (u0zh, .inr (1, [.int v6, .int v7, .int v8, .int v9, .int v10, .int v11, .int v12, .int v13]))]) [3, 4, 5, 6, 7] (by decide) rfl) hnw rfl rfl) rfl rfl hl.1 rfl (lv_room (Nat.le_of_ble_eq_true rfl)) dX2_valueIn_47 ⟨Nat.zero_le _, Nat.zero_le _⟩) hP hD hS hA [3, 4, 5, 6, 7] [0, 1, 2] rfl rfl rfl (by decide) (fun H locs hP hD hS => ?_)
          have hP : va_P (dC, dI) vwCl [(th, .inr (2, [.ref tqr, .ref tqo, .int tlen])), (tqr, .inl (cyI, 40, .inl trow)), (tqo, .inl (cyI, 5, .inl v5)), (u0h, .inr (0, [.ref u0qa, .ref u0qb, .ref u0qc, .ref u0zh, .int u0dd, .int u0sz])), (u0qa, .inl (cyI, 40, .inl u0fa)), (u0qb, .inl (cyI, 40, .inl u0fb)), (u0qc, .inl (cyI, 40, .inl u0fc)), (u0zh, .inr (1, [.int w105, .int w106, .int w107, .int w108, .int w109, .int w110, .int w111, .int w112]))] H := hP
          have hD : va_D A [(th, .inr (2, [.ref tqr, .ref tqo, .int tlen])), (tqr, .inl (cyI, 40, .inl trow)), (tqo, .inl (cyI, 5, .inl v5)), (u0h, .inr (0, [.ref u0qa, .ref u0qb, .ref u0qc, .ref u0zh, .int u0dd, .int u0sz])), (u0qa, .inl (cyI, 40, .inl u0fa)), (u0qb, .inl (cyI, 40, .inl u0fb)), (u0qc, .inl (cyI, 40, .inl u0fc)), (u0zh, .inr (1, [.int w105, .int w106, .int w107, .int w108, .int w109, .int w110, .int w111, .int w112]))] := hD
          refine lv_istore_n (lv' := [(3, .int r104), (5, .int x27), (4, .int v2), (2, .int v4), (0, .ref th), (1, .ref u0h)]) hx hb dX2_valueIn_50 rfl hl (by decide) rfl (fun ls hl => ?_)
          refine lv_goto (tgt := 148) hx hb dX2_valueIn_51 (by decide) ?_
          obtain ⟨x114, ex114⟩ : ∃ y : Int32, y = (v2 + (1 : Int32)) := ⟨_, rfl⟩
          have h := dm_lu ex114 h
          refine lv_iinc (v := x114) (lv' := [(4, .int x114), (3, .int r104), (5, .int x27), (2, .int v4), (0, .ref th), (1, .ref u0h)]) hx hb dX2_valueIn_148 hl (k := 2) rfl (by rw [ex114]; rfl) (by decide) rfl (fun ls hl => ?_)
          refine lv_goto (tgt := 14) hx hb dX2_valueIn_151 (by decide) ?_
          exact ih14 x114 r104 v4 v5 w105 w106 w107 w108 w109 w110 w111 w112 H _ ls h (hP.sub [0, 1, 2, 3, 4, 5, 6, 7] rfl) (hD.sub [0, 1, 2, 3, 4, 5, 6, 7] (by decide) rfl) hS (lv_sub hl [0, 1, 3, 4, 5] rfl)
  exact L14 100000 (0 : Int32) (0 : Int32) (0 : Int32) (upd topn ((0 : Int32)).toNatClampNeg (0 : Int32)) u0zra u0zrb u0zrc u0zrp u0zrq u0zrr u0zrs u0zrd H _ ls h hP hD hS hl
