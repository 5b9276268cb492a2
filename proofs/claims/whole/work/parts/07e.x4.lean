def f_X4_at (tla : Nat → Int64) (tlb : Nat → Int64) (tlc : Nat → Int64) (p0 : Int32) (p1 : Int64) (p2 : Int64) : Option (Int64) :=
  dm_g (¬ (p0 < 0 ∨ 40 ≤ (p0).toNatClampNeg)) <|
  dm_g (¬ (p0 < 0 ∨ 40 ≤ (p0).toNatClampNeg)) <|
  dm_g (¬ (p0 < 0 ∨ 40 ≤ (p0).toNatClampNeg)) <|
  some (((((tla (p0).toNatClampNeg) * p1) * p1) + (((tlb (p0).toNatClampNeg) * p1) * p2)) + (((tlc (p0).toNatClampNeg) * p2) * p2))
set_option maxHeartbeats 4000000 in
set_option maxRecDepth 100000 in
theorem c_X4_at (l : Launch) (dC : Nat → ClassId) (dI : Nat → Nat → Nat) (cyI cyJ cyC : ClassId) (th tqA tqB tqC tqL tqW tqO : Nat) (sz : Nat) (tthr : Int32) (tdd : Int32) (tn : Int32) (tla : Nat → Int64) (tlb : Nat → Int64) (tlc : Nat → Int64) (ta : Int64) (tb : Int64) (tc : Int64) (tp : Int64) (tq : Int64) (tr : Int64) (ts : Int64) (tsome : Int32) (tlast : Nat → Int64) (tlet : Int32) (twd : Nat → Int32) (topn : Nat → Int32) (p0 : Int32) (p1 : Int64) (p2 : Int64) (rv : Int64) (hf : f_X4_at tla tlb tlc p0 p1 p2 = some rv) : Met l yX4_at wsX4_at { frames := 0, cells := 0, slots := 0, locals := 0 } (va_Pc [.ref th, .int p0, .long p1, .long p2] (mc_Pre (dC, dI) (mc_tys cyI cyJ cyC) [(th, .inr (4, [.int tthr, .int tdd, .int tn, .ref tqA, .ref tqB, .ref tqC, .long ta, .long tb, .long tc, .long tp, .long tq, .long tr, .long ts, .int tsome, .ref tqL, .int tlet, .ref tqW, .ref tqO])), (tqA, .inl (cyJ, 40, .inr (.inl tla))), (tqB, .inl (cyJ, 40, .inr (.inl tlb))), (tqC, .inl (cyJ, 40, .inr (.inl tlc))), (tqL, .inl (cyJ, 7, .inr (.inl tlast))), (tqW, .inl (cyC, 40, .inl twd)), (tqO, .inl (cyI, 5, .inl topn))] sz)) (va_Ql (fun r (_ : Unit) => r = rv) (fun _ t => mc_Post (dC, dI) (va_A [(th, .inr (4, [.int tthr, .int tdd, .int tn, .ref tqA, .ref tqB, .ref tqC, .long ta, .long tb, .long tc, .long tp, .long tq, .long tr, .long ts, .int tsome, .ref tqL, .int tlet, .ref tqW, .ref tqO])), (tqA, .inl (cyJ, 40, .inr (.inl tla))), (tqB, .inl (cyJ, 40, .inr (.inl tlb))), (tqC, .inl (cyJ, 40, .inr (.inl tlc))), (tqL, .inl (cyJ, 7, .inr (.inl tlast))), (tqW, .inl (cyC, 40, .inl twd)), (tqO, .inl (cyI, 5, .inl topn))] sz) [(th, .inr (4, [.int tthr, .int tdd, .int tn, .ref tqA, .ref tqB, .ref tqC, .long ta, .long tb, .long tc, .long tp, .long tq, .long tr, .long ts, .int tsome, .ref tqL, .int tlet, .ref tqW, .ref tqO])), (tqA, .inl (cyJ, 40, .inr (.inl tla))), (tqB, .inl (cyJ, 40, .inr (.inl tlb))), (tqC, .inl (cyJ, 40, .inr (.inl tlc))), (tqL, .inl (cyJ, 7, .inr (.inl tlast))), (tqW, .inl (cyC, 40, .inl twd)), (tqO, .inl (cyI, 5, .inl topn))] t) (va_A [(th, .inr (4, [.int tthr, .int tdd, .int tn, .ref tqA, .ref tqB, .ref tqC, .long ta, .long tb, .long tc, .long tp, .long tq, .long tr, .long ts, .int tsome, .ref tqL, .int tlet, .ref tqW, .ref tqO])), (tqA, .inl (cyJ, 40, .inr (.inl tla))), (tqB, .inl (cyJ, 40, .inr (.inl tlb))), (tqC, .inl (cyJ, 40, .inr (.inl tlc))), (tqL, .inl (cyJ, 7, .inr (.inl tlast))), (tqW, .inl (cyC, 40, .inl twd)), (tqO, .inl (cyI, 5, .inl topn))] sz)) 0 0 (va_A [(th, .inr (4, [.int tthr, .int tdd, .int tn, .ref tqA, .ref tqB, .ref tqC, .long ta, .long tb, .long tc, .long tp, .long tq, .long tr, .long ts, .int tsome, .ref tqL, .int tlet, .ref tqW, .ref tqO])), (tqA, .inl (cyJ, 40, .inr (.inl tla))), (tqB, .inl (cyJ, 40, .inr (.inl tlb))), (tqC, .inl (cyJ, 40, .inr (.inl tlc))), (tqL, .inl (cyJ, 7, .inr (.inl tlast))), (tqW, .inl (cyC, 40, .inl twd)), (tqO, .inl (cyI, 5, .inl topn))] sz) := by
  refine Met.ofW (cc := cX4_at) (maxL := 6) (ret := (some .long)) (by decide +kernel) rfl ?_
  intro p e s m args below meth c s₁ B hml hv
  obtain ⟨rfl, hsz, hP, hK, hD0, hnw⟩ := hv
  have hx := B.exec
  have hb := B.bytes
  have hr := B.returns
  have hts := atoms_spec (ws := wsX4_at) B.pre
  have hown : s.vm.findClass RX4 = some m.cls := findClass_of_methodNamed B.named
  have hlocks := B.notSynchronized
  have hinX4 : ∀ w ∈ wsX40, w ∈ wsX4_at := by decide +kernel
  subst hsz
  have hD := hD0.self (sz := s.heap.size)
  generalize hAe : va_A [(th, .inr (4, [.int tthr, .int tdd, .int tn, .ref tqA, .ref tqB, .ref tqC, .long ta, .long tb, .long tc, .long tp, .long tq, .long tr, .long ts, .int tsome, .ref tqL, .int tlet, .ref tqW, .ref tqO])), (tqA, .inl (cyJ, 40, .inr (.inl tla))), (tqB, .inl (cyJ, 40, .inr (.inl tlb))), (tqC, .inl (cyJ, 40, .inr (.inl tlc))), (tqL, .inl (cyJ, 7, .inr (.inl tlast))), (tqW, .inl (cyC, 40, .inl twd)), (tqO, .inl (cyI, 5, .inl topn))] s.heap.size = A at hD ⊢
  have hA : ∀ q : Nat, s.heap.size ≤ q → A q := fun q h => by rw [← hAe]; exact Or.inr h
  have hS : va_S A s.heap s.heap [] := va_S.rf
  have hP : va_P (dC, dI) vwCl [(th, .inr (4, [.int tthr, .int tdd, .int tn, .ref tqA, .ref tqB, .ref tqC, .long ta, .long tb, .long tc, .long tp, .long tq, .long tr, .long ts, .int tsome, .ref tqL, .int tlet, .ref tqW, .ref tqO])), (tqA, .inl (cyJ, 40, .inr (.inl tla))), (tqB, .inl (cyJ, 40, .inr (.inl tlb))), (tqC, .inl (cyJ, 40, .inr (.inl tlc))), (tqL, .inl (cyJ, 7, .inr (.inl tlast))), (tqW, .inl (cyC, 40, .inl twd)), (tqO, .inl (cyI, 5, .inl topn))] s.heap := hP
  have hl := lv_entry ([.ref th, .int p0, .long p1, .long p2]) (n := 6) (Nat.le_of_ble_eq_true rfl)
  rw [lg_entry_eq]
  generalize (lg_sl ([.ref th, .int p0, .long p1, .long p2]) ++ List.replicate (6 - (lg_sl ([.ref th, .int p0, .long p1, .long p2])).length) Slot.unset).toArray = ls at hl ⊢
  have hl : lv_has ls 6 [(0, .ref th), (1, .int p0), (2, .long p1), (4, .long p2)] := hl
  obtain ⟨QQ, hQQ⟩ : ∃ Q, Q = MQ below (va_Ql (fun r (_ : Unit) => r = rv) (fun _ t => mc_Post (dC, dI) A [(th, .inr (4, [.int tthr, .int tdd, .int tn, .ref tqA, .ref tqB, .ref tqC, .long ta, .long tb, .long tc, .long tp, .long tq, .long tr, .long ts, .int tsome, .ref tqL, .int tlet, .ref tqW, .ref tqO])), (tqA, .inl (cyJ, 40, .inr (.inl tla))), (tqB, .inl (cyJ, 40, .inr (.inl tlb))), (tqC, .inl (cyJ, 40, .inr (.inl tlc))), (tqL, .inl (cyJ, 7, .inr (.inl tlast))), (tqW, .inl (cyC, 40, .inl twd)), (tqO, .inl (cyI, 5, .inl topn))] t) A) ([Value.ref th, Value.int p0, Value.long p1, Value.long p2] : List Value).toArray s 0 0 A := ⟨_, rfl⟩
  rw [← hQQ]
  have h := hf
  unfold f_X4_at at h
  refine lv_aload_n hx hb dX4_at_0 rfl (lv_at hl 0 rfl) ?_
  refine va_get (D := (dC, dI)) (ci := 4) (v := .ref tqA) (C := RX4) (T := TX4) (N := 18) hx hb hts hinX4 hown hK hP 0 rfl rfl 3 (by decide) (hts (.fieldLink RX4 13 "FormDeskModel" "listA" "[J") (by decide +kernel)) (fun _ h9 => h9) rfl dX4_at_1 ?_
  refine lv_iload_n hx hb dX4_at_4 rfl (lv_at hl 1 rfl) ?_
  obtain ⟨hn1, h⟩ := dm_gs h
  refine va_lald hx hb hK hP 1 1 rfl rfl hn1 dX4_at_5 ?_
  refine lv_lload_n hx hb dX4_at_6 rfl (lv_at hl 2 rfl) ?_
  refine lv_lmul hx hb dX4_at_7 ?_
  refine lv_lload_n hx hb dX4_at_8 rfl (lv_at hl 2 rfl) ?_
  refine lv_lmul hx hb dX4_at_9 ?_
  refine lv_aload_n hx hb dX4_at_10 rfl (lv_at hl 0 rfl) ?_
  refine va_get (D := (dC, dI)) (ci := 4) (v := .ref tqB) (C := RX4) (T := TX4) (N := 18) hx hb hts hinX4 hown hK hP 0 rfl rfl 4 (by decide) (hts (.fieldLink RX4 17 "FormDeskModel" "listB" "[J") (by decide +kernel)) (fun _ h9 => h9) rfl dX4_at_11 ?_
  refine lv_iload_n hx hb dX4_at_14 rfl (lv_at hl 1 rfl) ?_
  obtain ⟨hn2, h⟩ := dm_gs h
  refine va_lald hx hb hK hP 2 1 rfl rfl hn2 dX4_at_15 ?_
  refine lv_lload_n hx hb dX4_at_16 rfl (lv_at hl 2 rfl) ?_
  refine lv_lmul hx hb dX4_at_17 ?_
  refine lv_lload hx hb dX4_at_18 (lv_at hl 3 rfl) ?_
  refine lv_lmul hx hb dX4_at_20 ?_
  refine lv_ladd hx hb dX4_at_21 ?_
  refine lv_aload_n hx hb dX4_at_22 rfl (lv_at hl 0 rfl) ?_
  refine va_get (D := (dC, dI)) (ci := 4) (v := .ref tqC) (C := RX4) (T := TX4) (N := 18) hx hb hts hinX4 hown hK hP 0 rfl rfl 5 (by decide) (hts (.fieldLink RX4 20 "FormDeskModel" "listC" "[J") (by decide +kernel)) (fun _ h9 => h9) rfl dX4_at_23 ?_
  refine lv_iload_n hx hb dX4_at_26 rfl (lv_at hl 1 rfl) ?_
  obtain ⟨hn3, h⟩ := dm_gs h
  refine va_lald hx hb hK hP 3 1 rfl rfl hn3 dX4_at_27 ?_
  refine lv_lload hx hb dX4_at_28 (lv_at hl 3 rfl) ?_
  refine lv_lmul hx hb dX4_at_30 ?_
  refine lv_lload hx hb dX4_at_31 (lv_at hl 3 rfl) ?_
  refine lv_lmul hx hb dX4_at_33 ?_
  refine lv_ladd hx hb dX4_at_34 ?_
  obtain hE0 := dm_i1 h
  subst hE0
  rw [hQQ]
  have hP9 := hP.sub (ws' := [(th, .inr (4, [.int tthr, .int tdd, .int tn, .ref tqA, .ref tqB, .ref tqC, .long ta, .long tb, .long tc, .long tp, .long tq, .long tr, .long ts, .int tsome, .ref tqL, .int tlet, .ref tqW, .ref tqO])), (tqA, .inl (cyJ, 40, .inr (.inl tla))), (tqB, .inl (cyJ, 40, .inr (.inl tlb))), (tqC, .inl (cyJ, 40, .inr (.inl tlc))), (tqL, .inl (cyJ, 7, .inr (.inl tlast))), (tqW, .inl (cyC, 40, .inl twd)), (tqO, .inl (cyI, 5, .inl topn))]) [0, 1, 2, 3, 4, 5, 6] rfl
  have hD9 := hD.sub (ws' := [(th, .inr (4, [.int tthr, .int tdd, .int tn, .ref tqA, .ref tqB, .ref tqC, .long ta, .long tb, .long tc, .long tp, .long tq, .long tr, .long ts, .int tsome, .ref tqL, .int tlet, .ref tqW, .ref tqO])), (tqA, .inl (cyJ, 40, .inr (.inl tla))), (tqB, .inl (cyJ, 40, .inr (.inl tlb))), (tqC, .inl (cyJ, 40, .inr (.inl tlc))), (tqL, .inl (cyJ, 7, .inr (.inl tlast))), (tqW, .inl (cyC, 40, .inl twd)), (tqO, .inl (cyI, 5, .inl topn))]) [0, 1, 2, 3, 4, 5, 6] (by decide) rfl
  exact W.lret (v := (((((tla (p0).toNatClampNeg) * p1) * p1) + (((tlb (p0).toNatClampNeg) * p1) * p2)) + (((tlc (p0).toNatClampNeg) * p2) * p2))) hx hb hr (fun t ht hW => ⟨⟨(((((tla (p0).toNatClampNeg) * p1) * p1) + (((tlb (p0).toNatClampNeg) * p1) * p2)) + (((tlc (p0).toNatClampNeg) * p2) * p2)), (), rfl, rfl, by rw [ht]; exact hP9, hD9⟩, hS.F ht⟩) hS.2.2 dX4_at_35

def f_X4_reach_L3 (tdd : Int32) (p0 : Int64) (p1 : Int64)  : Nat → Int64 → Option (Int64)
  | 0, _ => none
  | n + 1, v1 =>
    if (((4 : Int64) * p0) * p1) < ((((-tdd)).toInt64 * (v1 + (1 : Int64))) * (v1 + (1 : Int64))) then
      some v1
    else
      dm_let (v1 + (1 : Int64)) fun x3 =>
      f_X4_reach_L3 tdd p0 p1 n x3
def f_X4_reach (tdd : Int32) (p0 : Int64) (p1 : Int64) : Option (Int64) :=
  f_X4_reach_L3 tdd p0 p1 100000 (0 : Int64)
set_option maxHeartbeats 4000000 in
set_option maxRecDepth 100000 in
theorem c_X4_reach (l : Launch) (dC : Nat → ClassId) (dI : Nat → Nat → Nat) (cyI cyJ cyC : ClassId) (th tqA tqB tqC tqL tqW tqO : Nat) (sz : Nat) (tthr : Int32) (tdd : Int32) (tn : Int32) (tla : Nat → Int64) (tlb : Nat → Int64) (tlc : Nat → Int64) (ta : Int64) (tb : Int64) (tc : Int64) (tp : Int64) (tq : Int64) (tr : Int64) (ts : Int64) (tsome : Int32) (tlast : Nat → Int64) (tlet : Int32) (twd : Nat → Int32) (topn : Nat → Int32) (p0 : Int64) (p1 : Int64) (rv : Int64) (hf : f_X4_reach tdd p0 p1 = some rv) : Met l yX4_reach wsX4_reach { frames := 0, cells := 0, slots := 0, locals := 0 } (va_Pc [.ref th, .long p0, .long p1] (mc_Pre (dC, dI) (mc_tys cyI cyJ cyC) [(th, .inr (4, [.int tthr, .int tdd, .int tn, .ref tqA, .ref tqB, .ref tqC, .long ta, .long tb, .long tc, .long tp, .long tq, .long tr, .long ts, .int tsome, .ref tqL, .int tlet, .ref tqW, .ref tqO])), (tqA, .inl (cyJ, 40, .inr (.inl tla))), (tqB, .inl (cyJ, 40, .inr (.inl tlb))), (tqC, .inl (cyJ, 40, .inr (.inl tlc))), (tqL, .inl (cyJ, 7, .inr (.inl tlast))), (tqW, .inl (cyC, 40, .inl twd)), (tqO, .inl (cyI, 5, .inl topn))] sz)) (va_Ql (fun r (_ : Unit) => r = rv) (fun _ t => mc_Post (dC, dI) (va_A [(th, .inr (4, [.int tthr, .int tdd, .int tn, .ref tqA, .ref tqB, .ref tqC, .long ta, .long tb, .long tc, .long tp, .long tq, .long tr, .long ts, .int tsome, .ref tqL, .int tlet, .ref tqW, .ref tqO])), (tqA, .inl (cyJ, 40, .inr (.inl tla))), (tqB, .inl (cyJ, 40, .inr (.inl tlb))), (tqC, .inl (cyJ, 40, .inr (.inl tlc))), (tqL, .inl (cyJ, 7, .inr (.inl tlast))), (tqW, .inl (cyC, 40, .inl twd)), (tqO, .inl (cyI, 5, .inl topn))] sz) [(th, .inr (4, [.int tthr, .int tdd, .int tn, .ref tqA, .ref tqB, .ref tqC, .long ta, .long tb, .long tc, .long tp, .long tq, .long tr, .long ts, .int tsome, .ref tqL, .int tlet, .ref tqW, .ref tqO])), (tqA, .inl (cyJ, 40, .inr (.inl tla))), (tqB, .inl (cyJ, 40, .inr (.inl tlb))), (tqC, .inl (cyJ, 40, .inr (.inl tlc))), (tqL, .inl (cyJ, 7, .inr (.inl tlast))), (tqW, .inl (cyC, 40, .inl twd)), (tqO, .inl (cyI, 5, .inl topn))] t) (va_A [(th, .inr (4, [.int tthr, .int tdd, .int tn, .ref tqA, .ref tqB, .ref tqC, .long ta, .long tb, .long tc, .long tp, .long tq, .long tr, .long ts, .int tsome, .ref tqL, .int tlet, .ref tqW, .ref tqO])), (tqA, .inl (cyJ, 40, .inr (.inl tla))), (tqB, .inl (cyJ, 40, .inr (.inl tlb))), (tqC, .inl (cyJ, 40, .inr (.inl tlc))), (tqL, .inl (cyJ, 7, .inr (.inl tlast))), (tqW, .inl (cyC, 40, .inl twd)), (tqO, .inl (cyI, 5, .inl topn))] sz)) 0 0 (va_A [(th, .inr (4, [.int tthr, .int tdd, .int tn, .ref tqA, .ref tqB, .ref tqC, .long ta, .long tb, .long tc, .long tp, .long tq, .long tr, .long ts, .int tsome, .ref tqL, .int tlet, .ref tqW, .ref tqO])), (tqA, .inl (cyJ, 40, .inr (.inl tla))), (tqB, .inl (cyJ, 40, .inr (.inl tlb))), (tqC, .inl (cyJ, 40, .inr (.inl tlc))), (tqL, .inl (cyJ, 7, .inr (.inl tlast))), (tqW, .inl (cyC, 40, .inl twd)), (tqO, .inl (cyI, 5, .inl topn))] sz) := by
  refine Met.ofW (cc := cX4_reach) (maxL := 7) (ret := (some .long)) (by decide +kernel) rfl ?_
  intro p e s m args below meth c s₁ B hml hv
  obtain ⟨rfl, hsz, hP, hK, hD0, hnw⟩ := hv
  have hx := B.exec
  have hb := B.bytes
  have hr := B.returns
  have hts := atoms_spec (ws := wsX4_reach) B.pre
  have hown : s.vm.findClass RX4 = some m.cls := findClass_of_methodNamed B.named
  have hlocks := B.notSynchronized
  have hinX4 : ∀ w ∈ wsX40, w ∈ wsX4_reach := by decide +kernel
  subst hsz
  have hD := hD0.self (sz := s.heap.size)
  generalize hAe : va_A [(th, .inr (4, [.int tthr, .int tdd, .int tn, .ref tqA, .ref tqB, .ref tqC, .long ta, .long tb, .long tc, .long tp, .long tq, .long tr, .long ts, .int tsome, .ref tqL, .int tlet, .ref tqW, .ref tqO])), (tqA, .inl (cyJ, 40, .inr (.inl tla))), (tqB, .inl (cyJ, 40, .inr (.inl tlb))), (tqC, .inl (cyJ, 40, .inr (.inl tlc))), (tqL, .inl (cyJ, 7, .inr (.inl tlast))), (tqW, .inl (cyC, 40, .inl twd)), (tqO, .inl (cyI, 5, .inl topn))] s.heap.size = A at hD ⊢
  have hA : ∀ q : Nat, s.heap.size ≤ q → A q := fun q h => by rw [← hAe]; exact Or.inr h
  have hS : va_S A s.heap s.heap [] := va_S.rf
  have hP : va_P (dC, dI) vwCl [(th, .inr (4, [.int tthr, .int tdd, .int tn, .ref tqA, .ref tqB, .ref tqC, .long ta, .long tb, .long tc, .long tp, .long tq, .long tr, .long ts, .int tsome, .ref tqL, .int tlet, .ref tqW, .ref tqO])), (tqA, .inl (cyJ, 40, .inr (.inl tla))), (tqB, .inl (cyJ, 40, .inr (.inl tlb))), (tqC, .inl (cyJ, 40, .inr (.inl tlc))), (tqL, .inl (cyJ, 7, .inr (.inl tlast))), (tqW, .inl (cyC, 40, .inl twd)), (tqO, .inl (cyI, 5, .inl topn))] s.heap := hP
  have hl := lv_entry ([.ref th, .long p0, .long p1]) (n := 7) (Nat.le_of_ble_eq_true rfl)
  rw [lg_entry_eq]
  generalize (lg_sl ([.ref th, .long p0, .long p1]) ++ List.replicate (7 - (lg_sl ([.ref th, .long p0, .long p1])).length) Slot.unset).toArray = ls at hl ⊢
  have hl : lv_has ls 7 [(0, .ref th), (1, .long p0), (3, .long p1)] := hl
  obtain ⟨QQ, hQQ⟩ : ∃ Q, Q = MQ below (va_Ql (fun r (_ : Unit) => r = rv) (fun _ t => mc_Post (dC, dI) A [(th, .inr (4, [.int tthr, .int tdd, .int tn, .ref tqA, .ref tqB, .ref tqC, .long ta, .long tb, .long tc, .long tp, .long tq, .long tr, .long ts, .int tsome, .ref tqL, .int tlet, .ref tqW, .ref tqO])), (tqA, .inl (cyJ, 40, .inr (.inl tla))), (tqB, .inl (cyJ, 40, .inr (.inl tlb))), (tqC, .inl (cyJ, 40, .inr (.inl tlc))), (tqL, .inl (cyJ, 7, .inr (.inl tlast))), (tqW, .inl (cyC, 40, .inl twd)), (tqO, .inl (cyI, 5, .inl topn))] t) A) ([Value.ref th, Value.long p0, Value.long p1] : List Value).toArray s 0 0 A := ⟨_, rfl⟩
  rw [← hQQ]
  have h := hf
  unfold f_X4_reach at h
  refine lv_lconst (v := 0) hx hb dX4_reach_0 (by decide) ?_
  refine lv_lstore (lv' := [(5, .long (0 : Int64)), (0, .ref th), (1, .long p0), (3, .long p1)]) hx hb dX4_reach_1 hl (by decide) rfl (fun ls hl => ?_)
  have L3 : ∀ (n3 : Nat) (v1 : Int64) (H : Heap) (locs : List Loc) (ls : Array Slot), f_X4_reach_L3 tdd p0 p1 n3 v1 = some rv → va_P (dC, dI) vwCl [(th, .inr (4, [.int tthr, .int tdd, .int tn, .ref tqA, .ref tqB, .ref tqC, .long ta, .long tb, .long tc, .long tp, .long tq, .long tr, .long ts, .int tsome, .ref tqL, .int tlet, .ref tqW, .ref tqO])), (tqA, .inl (cyJ, 40, .inr (.inl tla))), (tqB, .inl (cyJ, 40, .inr (.inl tlb))), (tqC, .inl (cyJ, 40, .inr (.inl tlc))), (tqL, .inl (cyJ, 7, .inr (.inl tlast))), (tqW, .inl (cyC, 40, .inl twd)), (tqO, .inl (cyI, 5, .inl topn))] H → va_D A [(th, .inr (4, [.int tthr, .int tdd, .int tn, .ref tqA, .ref tqB, .ref tqC, .long ta, .long tb, .long tc, .long tp, .long tq, .long tr, .long ts, .int tsome, .ref tqL, .int tlet, .ref tqW, .ref tqO])), (tqA, .inl (cyJ, 40, .inr (.inl tla))), (tqB, .inl (cyJ, 40, .inr (.inl tlb))), (tqC, .inl (cyJ, 40, .inr (.inl tlc))), (tqL, .inl (cyJ, 7, .inr (.inl tlast))), (tqW, .inl (cyC, 40, .inl twd)), (tqO, .inl (cyI, 5, .inl topn))] → va_S A s.heap H locs → lv_has ls 7 [(5, .long v1), (0, .ref th), (1, .long p0), (3, .long p1)] → W p l e (headSpec wsX4_reach { frames := 0, cells := 0, slots := 0, locals := 0 }).room s m ([Value.ref th, Value.long p0, Value.long p1] : List Value).toArray below meth c H locs 0 0 QQ (F0 m 3 ls []) := by
    intro n3
    induction n3 with
    | zero =>
      intro v1 H locs ls h
      exact nomatch (show (none : Option (Int64)) = some _ from h)
    | succ n3 ih3 =>
      intro v1 H locs ls h hP hD hS hl
      rw [f_X4_reach_L3] at h
      refine lv_aload_n hx hb dX4_reach_3 rfl (lv_at hl 1 rfl) ?_
      refine va_get (D := (dC, dI)) (ci := 4) (v := .int tdd) (C := RX4) (T := TX4) (N := 18) hx hb hts hinX4 hown hK hP 0 rfl rfl 1 (by decide) (hts (.fieldLink RX4 7 "FormDeskModel" "d" "I") (by decide +kernel)) (fun _ h9 => h9) rfl dX4_reach_4 ?_
      refine lv_ineg hx hb dX4_reach_7 ?_
      refine lv_i2l (v := ((-tdd)).toInt64) hx hb dX4_reach_8 rfl ?_
      refine lv_lload hx hb dX4_reach_9 (lv_at hl 0 rfl) ?_
      refine lv_lconst (v := 1) hx hb dX4_reach_11 (by decide) ?_
      refine lv_ladd hx hb dX4_reach_12 ?_
      refine lv_lmul hx hb dX4_reach_13 ?_
      refine lv_lload hx hb dX4_reach_14 (lv_at hl 0 rfl) ?_
      refine lv_lconst (v := 1) hx hb dX4_reach_16 (by decide) ?_
      refine lv_ladd hx hb dX4_reach_17 ?_
      refine lv_lmul hx hb dX4_reach_18 ?_
      refine lv_ldc2 (v := 4) hx hb hown (hts (.constantLong RX4 104 (4)) (by decide +kernel)) dX4_reach_19 ?_
      refine lv_lload_n hx hb dX4_reach_22 rfl (lv_at hl 2 rfl) ?_
      refine lv_lmul hx hb dX4_reach_23 ?_
      refine lv_lload_n hx hb dX4_reach_24 rfl (lv_at hl 3 rfl) ?_
      refine lv_lmul hx hb dX4_reach_25 ?_
      refine mc_lif_gt (tgt := 39) hx hb dX4_reach_26 dX4_reach_27 (by decide) (fun hc2 => ?_) (fun hc2 => ?_)
      · have h := dm_t hc2 h
        refine lv_lload hx hb dX4_reach_39 (lv_at hl 0 rfl) ?_
        obtain hE0 := dm_i1 h
        subst hE0
        rw [hQQ]
        have hP9 := hP.sub (ws' := [(th, .inr (4, [.int tthr, .int tdd, .int tn, .ref tqA, .ref tqB, .ref tqC, .long ta, .long tb, .long tc, .long tp, .long tq, .long tr, .long ts, .int tsome, .ref tqL, .int tlet, .ref tqW, .ref tqO])), (tqA, .inl (cyJ, 40, .inr (.inl tla))), (tqB, .inl (cyJ, 40, .inr (.inl tlb))), (tqC, .inl (cyJ, 40, .inr (.inl tlc))), (tqL, .inl (cyJ, 7, .inr (.inl tlast))), (tqW, .inl (cyC, 40, .inl twd)), (tqO, .inl (cyI, 5, .inl topn))]) [0, 1, 2, 3, 4, 5, 6] rfl
        have hD9 := hD.sub (ws' := [(th, .inr (4, [.int tthr, .int tdd, .int tn, .ref tqA, .ref tqB, .ref tqC, .long ta, .long tb, .long tc, .long tp, .long tq, .long tr, .long ts, .int tsome, .ref tqL, .int tlet, .ref tqW, .ref tqO])), (tqA, .inl (cyJ, 40, .inr (.inl tla))), (tqB, .inl (cyJ, 40, .inr (.inl tlb))), (tqC, .inl (cyJ, 40, .inr (.inl tlc))), (tqL, .inl (cyJ, 7, .inr (.inl tlast))), (tqW, .inl (cyC, 40, .inl twd)), (tqO, .inl (cyI, 5, .inl topn))]) [0, 1, 2, 3, 4, 5, 6] (by decide) rfl
        exact W.lret (v := v1) hx hb hr (fun t ht hW => ⟨⟨v1, (), rfl, rfl, by rw [ht]; exact hP9, hD9⟩, hS.F ht⟩) hS.2.2 dX4_reach_41
      · have h := dm_f hc2 h
        refine lv_lload hx hb dX4_reach_30 (lv_at hl 0 rfl) ?_
        refine lv_lconst (v := 1) hx hb dX4_reach_32 (by decide) ?_
        refine lv_ladd hx hb dX4_reach_33 ?_
        refine lv_topl (fun x3 ex3 => ?_)
        have h := dm_lu ex3 h
        refine lv_lstore (lv' := [(5, .long x3), (0, .ref th), (1, .long p0), (3, .long p1)]) hx hb dX4_reach_34 hl (by decide) rfl (fun ls hl => ?_)
        refine lv_goto (tgt := 3) hx hb dX4_reach_36 (by decide) ?_
        exact ih3 x3 H _ ls h (hP.sub [0, 1, 2, 3, 4, 5, 6] rfl) (hD.sub [0, 1, 2, 3, 4, 5, 6] (by decide) rfl) hS (lv_sub hl [0, 1, 2, 3] rfl)
  exact L3 100000 (0 : Int64) s.heap _ ls h hP hD hS hl

def f_X4_values_L85 (tla : Nat → Int64) (tlb : Nat → Int64) (tlc : Nat → Int64) (p0 : Int32) (p1 : Int32) (p2 : Int32) (r11 : Int64) (v14 : Int64) (k72 : Int64 → Int32 → Option (Int32 × Int32)) : Nat → Int64 → Int32 → Option (Int32 × Int32)
  | 0, _, _ => none
  | n + 1, v18, v19 =>
    if r11 < v18 then
      dm_let (v14 + (1 : Int64)) fun x21 =>
      k72 x21 v19
    else
      dm_b1 (f_X4_at tla tlb tlc p0 v14 v18) fun r22 =>
      if r22 = (p1).toInt64 then
        if p2 = 0 then
          dm_let (v19 + (1 : Int32)) fun x27 =>
          dm_let (v18 + (1 : Int64)) fun x28 =>
          f_X4_values_L85 tla tlb tlc p0 p1 p2 r11 v14 k72 n x28 x27
        else
          dm_b1 (f_X4_common v14 v18) fun r29 =>
          if r29 = (1 : Int64) then
            dm_let (v19 + (1 : Int32)) fun x33 =>
            dm_let (v18 + (1 : Int64)) fun x34 =>
            f_X4_values_L85 tla tlb tlc p0 p1 p2 r11 v14 k72 n x34 x33
          else
            dm_let (v18 + (1 : Int64)) fun x32 =>
            f_X4_values_L85 tla tlb tlc p0 p1 p2 r11 v14 k72 n x32 v19
      else
        dm_let (v18 + (1 : Int64)) fun x25 =>
        f_X4_values_L85 tla tlb tlc p0 p1 p2 r11 v14 k72 n x25 v19
def f_X4_values_L72 (tla : Nat → Int64) (tlb : Nat → Int64) (tlc : Nat → Int64) (p0 : Int32) (p1 : Int32) (p2 : Int32) (r8 : Int64) (r11 : Int64)  : Nat → Int64 → Int32 → Option (Int32 × Int32)
  | 0, _, _ => none
  | n + 1, v14, v15 =>
    if r8 < v14 then
      some (v15, (0 : Int32))
    else
      dm_let (-r11) fun x17 =>
      f_X4_values_L85 tla tlb tlc p0 p1 p2 r11 v14 (fun o0 o1 => f_X4_values_L72 tla tlb tlc p0 p1 p2 r8 r11 n o0 o1) 100000 x17 v15
def f_X4_values (tdd : Int32) (tn : Int32) (tla : Nat → Int64) (tlb : Nat → Int64) (tlc : Nat → Int64) (p0 : Int32) (p1 : Int32) (p2 : Int32) : Option (Int32 × Int32) :=
  dm_b1 (f_X4_isClass tn p0) fun r1 =>
  if r1 = 0 then
    dm_b2 (f_X4_refuse (1 : Int32)) fun r38 w39 =>
    some (r38, w39)
  else
    dm_b1 (f_X4_outside p1 (0 : Int32) (1000 : Int32)) fun r4 =>
    if r4 = 0 then
      dm_g (¬ (p0 < 0 ∨ 40 ≤ (p0).toNatClampNeg)) <|
      dm_b1 (f_X4_reach tdd (tlc (p0).toNatClampNeg) (p1).toInt64) fun r8 =>
      dm_g (¬ (p0 < 0 ∨ 40 ≤ (p0).toNatClampNeg)) <|
      dm_b1 (f_X4_reach tdd (tla (p0).toNatClampNeg) (p1).toInt64) fun r11 =>
      dm_let (-r8) fun x13 =>
      f_X4_values_L72 tla tlb tlc p0 p1 p2 r8 r11 100000 x13 (0 : Int32)
    else
      dm_b2 (f_X4_refuse (2 : Int32)) fun r35 w36 =>
      some (r35, w36)
set_option maxHeartbeats 4000000 in
set_option maxRecDepth 100000 in
theorem c_X4_values (l : Launch) (dC : Nat → ClassId) (dI : Nat → Nat → Nat) (cyI cyJ cyC : ClassId) (th tqA tqB tqC tqL tqW tqO : Nat) (sz : Nat) (tthr : Int32) (tdd : Int32) (tn : Int32) (tla : Nat → Int64) (tlb : Nat → Int64) (tlc : Nat → Int64) (ta : Int64) (tb : Int64) (tc : Int64) (tp : Int64) (tq : Int64) (tr : Int64) (ts : Int64) (tsome : Int32) (tlast : Nat → Int64) (tlet : Int32) (twd : Nat → Int32) (topn : Nat → Int32) (p0 : Int32) (p1 : Int32) (p2 : Int32) (rv : Int32) (tthr' : Int32) (hf : f_X4_values tdd tn tla tlb tlc p0 p1 p2 = some (rv, tthr')) : Met l yX4_values wsX4_values { frames := 2, cells := 0, slots := 0, locals := 48 } (va_Pc [.ref th, .int p0, .int p1, .int p2] (mc_Pre (dC, dI) (mc_tys cyI cyJ cyC) [(th, .inr (4, [.int tthr, .int tdd, .int tn, .ref tqA, .ref tqB, .ref tqC, .long ta, .long tb, .long tc, .long tp, .long tq, .long tr, .long ts, .int tsome, .ref tqL, .int tlet, .ref tqW, .ref tqO])), (tqA, .inl (cyJ, 40, .inr (.inl tla))), (tqB, .inl (cyJ, 40, .inr (.inl tlb))), (tqC, .inl (cyJ, 40, .inr (.inl tlc))), (tqL, .inl (cyJ, 7, .inr (.inl tlast))), (tqW, .inl (cyC, 40, .inl twd)), (tqO, .inl (cyI, 5, .inl topn))] sz)) (va_Qi (fun r (_ : Unit) => r = rv) (fun _ t => mc_Post (dC, dI) (va_A [(th, .inr (4, [.int tthr, .int tdd, .int tn, .ref tqA, .ref tqB, .ref tqC, .long ta, .long tb, .long tc, .long tp, .long tq, .long tr, .long ts, .int tsome, .ref tqL, .int tlet, .ref tqW, .ref tqO])), (tqA, .inl (cyJ, 40, .inr (.inl tla))), (tqB, .inl (cyJ, 40, .inr (.inl tlb))), (tqC, .inl (cyJ, 40, .inr (.inl tlc))), (tqL, .inl (cyJ, 7, .inr (.inl tlast))), (tqW, .inl (cyC, 40, .inl twd)), (tqO, .inl (cyI, 5, .inl topn))] sz) [(th, .inr (4, [.int tthr', .int tdd, .int tn, .ref tqA, .ref tqB, .ref tqC, .long ta, .long tb, .long tc, .long tp, .long tq, .long tr, .long ts, .int tsome, .ref tqL, .int tlet, .ref tqW, .ref tqO])), (tqA, .inl (cyJ, 40, .inr (.inl tla))), (tqB, .inl (cyJ, 40, .inr (.inl tlb))), (tqC, .inl (cyJ, 40, .inr (.inl tlc))), (tqL, .inl (cyJ, 7, .inr (.inl tlast))), (tqW, .inl (cyC, 40, .inl twd)), (tqO, .inl (cyI, 5, .inl topn))] t) (va_A [(th, .inr (4, [.int tthr, .int tdd, .int tn, .ref tqA, .ref tqB, .ref tqC, .long ta, .long tb, .long tc, .long tp, .long tq, .long tr, .long ts, .int tsome, .ref tqL, .int tlet, .ref tqW, .ref tqO])), (tqA, .inl (cyJ, 40, .inr (.inl tla))), (tqB, .inl (cyJ, 40, .inr (.inl tlb))), (tqC, .inl (cyJ, 40, .inr (.inl tlc))), (tqL, .inl (cyJ, 7, .inr (.inl tlast))), (tqW, .inl (cyC, 40, .inl twd)), (tqO, .inl (cyI, 5, .inl topn))] sz)) 0 0 (va_A [(th, .inr (4, [.int tthr, .int tdd, .int tn, .ref tqA, .ref tqB, .ref tqC, .long ta, .long tb, .long tc, .long tp, .long tq, .long tr, .long ts, .int tsome, .ref tqL, .int tlet, .ref tqW, .ref tqO])), (tqA, .inl (cyJ, 40, .inr (.inl tla))), (tqB, .inl (cyJ, 40, .inr (.inl tlb))), (tqC, .inl (cyJ, 40, .inr (.inl tlc))), (tqL, .inl (cyJ, 7, .inr (.inl tlast))), (tqW, .inl (cyC, 40, .inl twd)), (tqO, .inl (cyI, 5, .inl topn))] sz) := by
  refine Met.ofW (cc := cX4_values) (maxL := 13) (ret := (some .int)) (by decide +kernel) rfl ?_
  intro p e s m args below meth c s₁ B hml hv
  obtain ⟨rfl, hsz, hP, hK, hD0, hnw⟩ := hv
  have hx := B.exec
  have hb := B.bytes
  have hr := B.returns
  have hts := atoms_spec (ws := wsX4_values) B.pre
  have hown : s.vm.findClass RX4 = some m.cls := findClass_of_methodNamed B.named
  have hlocks := B.notSynchronized
  have hinX4 : ∀ w ∈ wsX40, w ∈ wsX4_values := by decide +kernel
  subst hsz
  have hD := hD0.self (sz := s.heap.size)
  generalize hAe : va_A [(th, .inr (4, [.int tthr, .int tdd, .int tn, .ref tqA, .ref tqB, .ref tqC, .long ta, .long tb, .long tc, .long tp, .long tq, .long tr, .long ts, .int tsome, .ref tqL, .int tlet, .ref tqW, .ref tqO])), (tqA, .inl (cyJ, 40, .inr (.inl tla))), (tqB, .inl (cyJ, 40, .inr (.inl tlb))), (tqC, .inl (cyJ, 40, .inr (.inl tlc))), (tqL, .inl (cyJ, 7, .inr (.inl tlast))), (tqW, .inl (cyC, 40, .inl twd)), (tqO, .inl (cyI, 5, .inl topn))] s.heap.size = A at hD ⊢
  have hA : ∀ q : Nat, s.heap.size ≤ q → A q := fun q h => by rw [← hAe]; exact Or.inr h
  have hS : va_S A s.heap s.heap [] := va_S.rf
  have hP : va_P (dC, dI) vwCl [(th, .inr (4, [.int tthr, .int tdd, .int tn, .ref tqA, .ref tqB, .ref tqC, .long ta, .long tb, .long tc, .long tp, .long tq, .long tr, .long ts, .int tsome, .ref tqL, .int tlet, .ref tqW, .ref tqO])), (tqA, .inl (cyJ, 40, .inr (.inl tla))), (tqB, .inl (cyJ, 40, .inr (.inl tlb))), (tqC, .inl (cyJ, 40, .inr (.inl tlc))), (tqL, .inl (cyJ, 7, .inr (.inl tlast))), (tqW, .inl (cyC, 40, .inl twd)), (tqO, .inl (cyI, 5, .inl topn))] s.heap := hP
  have hl := lv_entry ([.ref th, .int p0, .int p1, .int p2]) (n := 13) (Nat.le_of_ble_eq_true rfl)
  rw [lg_entry_eq]
  generalize (lg_sl ([.ref th, .int p0, .int p1, .int p2]) ++ List.replicate (13 - (lg_sl ([.ref th, .int p0, .int p1, .int p2])).length) Slot.unset).toArray = ls at hl ⊢
  have hl : lv_has ls 13 [(0, .ref th), (1, .int p0), (2, .int p1), (3, .int p2)] := hl
  obtain ⟨QQ, hQQ⟩ : ∃ Q, Q = MQ below (va_Qi (fun r (_ : Unit) => r = rv) (fun _ t => mc_Post (dC, dI) A [(th, .inr (4, [.int tthr', .int tdd, .int tn, .ref tqA, .ref tqB, .ref tqC, .long ta, .long tb, .long tc, .long tp, .long tq, .long tr, .long ts, .int tsome, .ref tqL, .int tlet, .ref tqW, .ref tqO])), (tqA, .inl (cyJ, 40, .inr (.inl tla))), (tqB, .inl (cyJ, 40, .inr (.inl tlb))), (tqC, .inl (cyJ, 40, .inr (.inl tlc))), (tqL, .inl (cyJ, 7, .inr (.inl tlast))), (tqW, .inl (cyC, 40, .inl twd)), (tqO, .inl (cyI, 5, .inl topn))] t) A) ([Value.ref th, Value.int p0, Value.int p1, Value.int p2] : List Value).toArray s 0 0 A := ⟨_, rfl⟩
  rw [← hQQ]
  have h := hf
  unfold f_X4_values at h
  refine lv_aload_n hx hb dX4_values_0 rfl (lv_at hl 0 rfl) ?_
  refine lv_iload_n hx hb dX4_values_1 rfl (lv_at hl 1 rfl) ?_
  obtain ⟨r1, hk2, h⟩ := dm_b1s h
  refine mc_i (wr := []) (va_runV (As := [.int p0]) (rest := []) ⟨hx, hb, hml, hown, hts⟩ (c_X4_isClass l dC dI cyI cyJ cyC th tqA tqB tqC tqL tqW tqO s.heap.size tthr tdd tn tla tlb tlc ta tb tc tp tq tr ts tsome tlast tlet twd topn p0 r1 hk2) (cwV 1 hts gX4_values_X4_isClass rfl rfl rfl (by decide +kernel) ⟨(Nat.le_of_ble_eq_true rfl), (Nat.le_of_ble_eq_true rfl)⟩) (mc_preV hK (hP.sub (ws' := [(th, .inr (4, [.int tthr, .int tdd, .int tn, .ref tqA, .ref tqB, .ref tqC, .long ta, .long tb, .long tc, .long tp, .long tq, .long tr, .long ts, .int tsome, .ref tqL, .int tlet, .ref tqW, .ref tqO])), (tqA, .inl (cyJ, 40, .inr (.inl tla))), (tqB, .inl (cyJ, 40, .inr (.inl tlb))), (tqC, .inl (cyJ, 40, .inr (.inl tlc))), (tqL, .inl (cyJ, 7, .inr (.inl tlast))), (tqW, .inl (cyC, 40, .inl twd)), (tqO, .inl (cyI, 5, .inl topn))]) [0, 1, 2, 3, 4, 5, 6] rfl) (hD.sub (ws' := [(th, .inr (4, [.int tthr, .int tdd, .int tn, .ref tqA, .ref tqB, .ref tqC, .long ta, .long tb, .long tc, .long tp, .long tq, .long tr, .long ts, .int tsome, .ref tqL, .int tlet, .ref tqW, .ref tqO])), (tqA, .inl (cyJ, 40, .inr (.inl tla))), (tqB, .inl (cyJ, 40, .inr (.inl tlb))), (tqC, .inl (cyJ, 40, .inr (.inl tlc))), (tqL, .inl (cyJ, 7, .inr (.inl tlast))), (tqW, .inl (cyC, 40, .inl twd)), (tqO, .inl (cyI, 5, .inl topn))]) [0, 1, 2, 3, 4, 5, 6] (by decide) rfl) hnw rfl rfl) rfl rfl hl.1 rfl (lv_room (Nat.le_of_ble_eq_true rfl)) dX4_values_2 ⟨Nat.zero_le _, Nat.zero_le _⟩) hP hD hS hA [0, 1, 2, 3, 4, 5, 6] [] rfl rfl rfl (by decide) (fun H locs hP hD hS => ?_)
  have hP : va_P (dC, dI) vwCl [(th, .inr (4, [.int tthr, .int tdd, .int tn, .ref tqA, .ref tqB, .ref tqC, .long ta, .long tb, .long tc, .long tp, .long tq, .long tr, .long ts, .int tsome, .ref tqL, .int tlet, .ref tqW, .ref tqO])), (tqA, .inl (cyJ, 40, .inr (.inl tla))), (tqB, .inl (cyJ, 40, .inr (.inl tlb))), (tqC, .inl (cyJ, 40, .inr (.inl tlc))), (tqL, .inl (cyJ, 7, .inr (.inl tlast))), (tqW, .inl (cyC, 40, .inl twd)), (tqO, .inl (cyI, 5, .inl topn))] H := hP
  have hD : va_D A [(th, .inr (4, [.int tthr, .int tdd, .int tn, .ref tqA, .ref tqB, .ref tqC, .long ta, .long tb, .long tc, .long tp, .long tq, .long tr, .long ts, .int tsome, .ref tqL, .int tlet, .ref tqW, .ref tqO])), (tqA, .inl (cyJ, 40, .inr (.inl tla))), (tqB, .inl (cyJ, 40, .inr (.inl tlb))), (tqC, .inl (cyJ, 40, .inr (.inl tlc))), (tqL, .inl (cyJ, 7, .inr (.inl tlast))), (tqW, .inl (cyC, 40, .inl twd)), (tqO, .inl (cyI, 5, .inl topn))] := hD
  refine lv_if_ne (tgt := 14) hx hb dX4_values_5 (by decide) (fun hc3 => ?_) (fun hc3 => ?_)
  · have h := dm_f hc3 h
    refine lv_iload_n hx hb dX4_values_14 rfl (lv_at hl 2 rfl) ?_
    refine lv_iconst (v := 0) hx hb dX4_values_15 (by decide) ?_
    refine lv_sipush (v := 1000) hx hb dX4_values_16 (by decide) ?_
    obtain ⟨r4, hk5, h⟩ := dm_b1s h
    refine mc_i (wr := [(th, .inr (4, [.int tthr, .int tdd, .int tn, .ref tqA, .ref tqB, .ref tqC, .long ta, .long tb, .long tc, .long tp, .long tq, .long tr, .long ts, .int tsome, .ref tqL, .int tlet, .ref tqW, .ref tqO])), (tqA, .inl (cyJ, 40, .inr (.inl tla))), (tqB, .inl (cyJ, 40, .inr (.inl tlb))), (tqC, .inl (cyJ, 40, .inr (.inl tlc))), (tqL, .inl (cyJ, 7, .inr (.inl tlast))), (tqW, .inl (cyC, 40, .inl twd)), (tqO, .inl (cyI, 5, .inl topn))]) (va_runS (As := [.int p1, .int (0 : Int32), .int (1000 : Int32)]) (rest := []) ⟨hx, hb, hml, hown, hts⟩ (c_X4_outside l dC dI cyI cyJ cyC H.size p1 (0 : Int32) (1000 : Int32) r4 hk5) (va_cwS 3 hts gX4_values_X4_outside rfl rfl rfl (by decide +kernel) ⟨(Nat.le_of_ble_eq_true rfl), (Nat.le_of_ble_eq_true rfl)⟩) (mc_preS hK (hP.sub (ws' := []) [] rfl) (hD.sub (ws' := []) [] (by decide) rfl) hnw) rfl rfl hl.1 rfl (lv_room (Nat.le_of_ble_eq_true rfl)) dX4_values_19 ⟨Nat.zero_le _, Nat.zero_le _⟩) hP hD hS hA [] [0, 1, 2, 3, 4, 5, 6] rfl rfl rfl (by decide) (fun H locs hP hD hS => ?_)
    have hP : va_P (dC, dI) vwCl [(th, .inr (4, [.int tthr, .int tdd, .int tn, .ref tqA, .ref tqB, .ref tqC, .long ta, .long tb, .long tc, .long tp, .long tq, .long tr, .long ts, .int tsome, .ref tqL, .int tlet, .ref tqW, .ref tqO])), (tqA, .inl (cyJ, 40, .inr (.inl tla))), (tqB, .inl (cyJ, 40, .inr (.inl tlb))), (tqC, .inl (cyJ, 40, .inr (.inl tlc))), (tqL, .inl (cyJ, 7, .inr (.inl tlast))), (tqW, .inl (cyC, 40, .inl twd)), (tqO, .inl (cyI, 5, .inl topn))] H := hP
    have hD : va_D A [(th, .inr (4, [.int tthr, .int tdd, .int tn, .ref tqA, .ref tqB, .ref tqC, .long ta, .long tb, .long tc, .long tp, .long tq, .long tr, .long ts, .int tsome, .ref tqL, .int tlet, .ref tqW, .ref tqO])), (tqA, .inl (cyJ, 40, .inr (.inl tla))), (tqB, .inl (cyJ, 40, .inr (.inl tlb))), (tqC, .inl (cyJ, 40, .inr (.inl tlc))), (tqL, .inl (cyJ, 7, .inr (.inl tlast))), (tqW, .inl (cyC, 40, .inl twd)), (tqO, .inl (cyI, 5, .inl topn))] := hD
    refine lv_if_eq (tgt := 31) hx hb dX4_values_22 (by decide) (fun hc6 => ?_) (fun hc6 => ?_)
    · have h := dm_t hc6 h
      refine lv_aload_n hx hb dX4_values_31 rfl (lv_at hl 0 rfl) ?_
      refine lv_iconst (v := 0) hx hb dX4_values_32 (by decide) ?_
      refine va_put (D := (dC, dI)) (ci := 4) (v := .int (0 : Int32)) (ty := .int) (C := RX4) (T := TX4) (N := 18) hx hb hts hinX4 tyX4 tyX4_ok nmX4 hown hK hP hD hS 0 rfl rfl 0 (by decide) (hts (.fieldLink RX4 38 "FormDeskModel" "thrown" "I") (by decide +kernel)) (fun _ h9 => h9) rfl (by decide +kernel) rfl rfl (Nat.le_of_ble_eq_true rfl) dX4_values_33 (fun H locs hP hD hS => ?_)
      have hP : va_P (dC, dI) vwCl [(th, .inr (4, [.int (0 : Int32), .int tdd, .int tn, .ref tqA, .ref tqB, .ref tqC, .long ta, .long tb, .long tc, .long tp, .long tq, .long tr, .long ts, .int tsome, .ref tqL, .int tlet, .ref tqW, .ref tqO])), (tqA, .inl (cyJ, 40, .inr (.inl tla))), (tqB, .inl (cyJ, 40, .inr (.inl tlb))), (tqC, .inl (cyJ, 40, .inr (.inl tlc))), (tqL, .inl (cyJ, 7, .inr (.inl tlast))), (tqW, .inl (cyC, 40, .inl twd)), (tqO, .inl (cyI, 5, .inl topn))] H := hP
      have hD : va_D A [(th, .inr (4, [.int (0 : Int32), .int tdd, .int tn, .ref tqA, .ref tqB, .ref tqC, .long ta, .long tb, .long tc, .long tp, .long tq, .long tr, .long ts, .int tsome, .ref tqL, .int tlet, .ref tqW, .ref tqO])), (tqA, .inl (cyJ, 40, .inr (.inl tla))), (tqB, .inl (cyJ, 40, .inr (.inl tlb))), (tqC, .inl (cyJ, 40, .inr (.inl tlc))), (tqL, .inl (cyJ, 7, .inr (.inl tlast))), (tqW, .inl (cyC, 40, .inl twd)), (tqO, .inl (cyI, 5, .inl topn))] := hD
      refine lv_aload_n hx hb dX4_values_36 rfl (lv_at hl 0 rfl) ?_
      refine lv_aload_n hx hb dX4_values_37 rfl (lv_at hl 0 rfl) ?_
      refine va_get (D := (dC, dI)) (ci := 4) (v := .ref tqC) (C := RX4) (T := TX4) (N := 18) hx hb hts hinX4 hown hK hP 0 rfl rfl 5 (by decide) (hts (.fieldLink RX4 20 "FormDeskModel" "listC" "[J") (by decide +kernel)) (fun _ h9 => h9) rfl dX4_values_38 ?_
      refine lv_iload_n hx hb dX4_values_41 rfl (lv_at hl 1 rfl) ?_
      obtain ⟨hn7, h⟩ := dm_gs h
      refine va_lald hx hb hK hP 3 1 rfl rfl hn7 dX4_values_42 ?_
      refine lv_iload_n hx hb dX4_values_43 rfl (lv_at hl 2 rfl) ?_
      refine lv_i2l (v := (p1).toInt64) hx hb dX4_values_44 rfl ?_
      obtain ⟨r8, hk9, h⟩ := dm_b1s h
      refine mc_l (wr := []) (va_runV (As := [.long (tlc (p0).toNatClampNeg), .long (p1).toInt64]) (rest := []) ⟨hx, hb, hml, hown, hts⟩ (c_X4_reach l dC dI cyI cyJ cyC th tqA tqB tqC tqL tqW tqO H.size (0 : Int32) tdd tn tla tlb tlc ta tb tc tp tq tr ts tsome tlast tlet twd topn (tlc (p0).toNatClampNeg) (p1).toInt64 r8 hk9) (cwV 2 hts gX4_values_X4_reach rfl rfl rfl (by decide +kernel) ⟨(Nat.le_of_ble_eq_true rfl), (Nat.le_of_ble_eq_true rfl)⟩) (mc_preV hK (hP.sub (ws' := [(th, .inr (4, [.int (0 : Int32), .int tdd, .int tn, .ref tqA, .ref tqB, .ref tqC, .long ta, .long tb, .long tc, .long tp, .long tq, .long tr, .long ts, .int tsome, .ref tqL, .int tlet, .ref tqW, .ref tqO])), (tqA, .inl (cyJ, 40, .inr (.inl tla))), (tqB, .inl (cyJ, 40, .inr (.inl tlb))), (tqC, .inl (cyJ, 40, .inr (.inl tlc))), (tqL, .inl (cyJ, 7, .inr (.inl tlast))), (tqW, .inl (cyC, 40, .inl twd)), (tqO, .inl (cyI, 5, .inl topn))]) [0, 1, 2, 3, 4, 5, 6] rfl) (hD.sub (ws' := [(th, .inr (4, [.int (0 : Int32), .int tdd, .int tn, .ref tqA, .ref tqB, .ref tqC, .long ta, .long tb, .long tc, .long tp, .long tq, .long tr, .long ts, .int tsome, .ref tqL, .int tlet, .ref tqW, .ref tqO])), (tqA, .inl (cyJ, 40, .inr (.inl tla))), (tqB, .inl (cyJ, 40, .inr (.inl tlb))), (tqC, .inl (cyJ, 40, .inr (.inl tlc))), (tqL, .inl (cyJ, 7, .inr (.inl tlast))), (tqW, .inl (cyC, 40, .inl twd)), (tqO, .inl (cyI, 5, .inl topn))]) [0, 1, 2, 3, 4, 5, 6] (by decide) rfl) hnw rfl rfl) rfl rfl hl.1 rfl (lv_room (Nat.le_of_ble_eq_true rfl)) dX4_values_45 ⟨Nat.zero_le _, Nat.zero_le _⟩) hP hD hS hA [0, 1, 2, 3, 4, 5, 6] [] rfl rfl rfl (by decide) (fun H locs hP hD hS => ?_)
      have hP : va_P (dC, dI) vwCl [(th, .inr (4, [.int (0 : Int32), .int tdd, .int tn, .ref tqA, .ref tqB, .ref tqC, .long ta, .long tb, .long tc, .long tp, .long tq, .long tr, .long ts, .int tsome, .ref tqL, .int tlet, .ref tqW, .ref tqO])), (tqA, .inl (cyJ, 40, .inr (.inl tla))), (tqB, .inl (cyJ, 40, .inr (.inl tlb))), (tqC, .inl (cyJ, 40, .inr (.inl tlc))), (tqL, .inl (cyJ, 7, .inr (.inl tlast))), (tqW, .inl (cyC, 40, .inl twd)), (tqO, .inl (cyI, 5, .inl topn))] H := hP
      have hD : va_D A [(th, .inr (4, [.int (0 : Int32), .int tdd, .int tn, .ref tqA, .ref tqB, .ref tqC, .long ta, .long tb, .long tc, .long tp, .long tq, .long tr, .long ts, .int tsome, .ref tqL, .int tlet, .ref tqW, .ref tqO])), (tqA, .inl (cyJ, 40, .inr (.inl tla))), (tqB, .inl (cyJ, 40, .inr (.inl tlb))), (tqC, .inl (cyJ, 40, .inr (.inl tlc))), (tqL, .inl (cyJ, 7, .inr (.inl tlast))), (tqW, .inl (cyC, 40, .inl twd)), (tqO, .inl (cyI, 5, .inl topn))] := hD
      refine lv_lstore (lv' := [(4, .long r8), (0, .ref th), (1, .int p0), (2, .int p1), (3, .int p2)]) hx hb dX4_values_48 hl (by decide) rfl (fun ls hl => ?_)
      refine lv_aload_n hx hb dX4_values_50 rfl (lv_at hl 1 rfl) ?_
      refine lv_aload_n hx hb dX4_values_51 rfl (lv_at hl 1 rfl) ?_
      refine va_get (D := (dC, dI)) (ci := 4) (v := .ref tqA) (C := RX4) (T := TX4) (N := 18) hx hb hts hinX4 hown hK hP 0 rfl rfl 3 (by decide) (hts (.fieldLink RX4 13 "FormDeskModel" "listA" "[J") (by decide +kernel)) (fun _ h9 => h9) rfl dX4_values_52 ?_
      refine lv_iload_n hx hb dX4_values_55 rfl (lv_at hl 2 rfl) ?_
      obtain ⟨hn10, h⟩ := dm_gs h
      refine va_lald hx hb hK hP 1 1 rfl rfl hn10 dX4_values_56 ?_
      refine lv_iload_n hx hb dX4_values_57 rfl (lv_at hl 3 rfl) ?_
      refine lv_i2l (v := (p1).toInt64) hx hb dX4_values_58 rfl ?_
      obtain ⟨r11, hk12, h⟩ := dm_b1s h
      refine mc_l (wr := []) (va_runV (As := [.long (tla (p0).toNatClampNeg), .long (p1).toInt64]) (rest := []) ⟨hx, hb, hml, hown, hts⟩ (c_X4_reach l dC dI cyI cyJ cyC th tqA tqB tqC tqL tqW tqO H.size (0 : Int32) tdd tn tla tlb tlc ta tb tc tp tq tr ts tsome tlast tlet twd topn (tla (p0).toNatClampNeg) (p1).toInt64 r11 hk12) (cwV 2 hts gX4_values_X4_reach rfl rfl rfl (by decide +kernel) ⟨(Nat.le_of_ble_eq_true rfl), (Nat.le_of_ble_eq_true rfl)⟩) (mc_preV hK (hP.sub (ws' := [(th, .inr (4, [.int (0 : Int32), .int tdd, .int tn, .ref tqA, .ref tqB, .ref tqC, .long ta, .long tb, .long tc, .long tp, .long tq, .long tr, .long ts, .int tsome, .ref tqL, .int tlet, .ref tqW, .ref tqO])), (tqA, .inl (cyJ, 40, .inr (.inl tla))), (tqB, .inl (cyJ, 40, .inr (.inl tlb))), (tqC, .inl (cyJ, 40, .inr (.inl tlc))), (tqL, .inl (cyJ, 7, .inr (.inl tlast))), (tqW, .inl (cyC, 40, .inl twd)), (tqO, .inl (cyI, 5, .inl topn))]) [0, 1, 2, 3, 4, 5, 6] rfl) (hD.sub (ws' := [(th, .inr (4, [.int (0 : Int32), .int tdd, .int tn, .ref tqA, .ref tqB, .ref tqC, .long ta, .long tb, .long tc, .long tp, .long tq, .long tr, .long ts, .int tsome, .ref tqL, .int tlet, .ref tqW, .ref tqO])), (tqA, .inl (cyJ, 40, .inr (.inl tla))), (tqB, .inl (cyJ, 40, .inr (.inl tlb))), (tqC, .inl (cyJ, 40, .inr (.inl tlc))), (tqL, .inl (cyJ, 7, .inr (.inl tlast))), (tqW, .inl (cyC, 40, .inl twd)), (tqO, .inl (cyI, 5, .inl topn))]) [0, 1, 2, 3, 4, 5, 6] (by decide) rfl) hnw rfl rfl) rfl rfl hl.1 rfl (lv_room (Nat.le_of_ble_eq_true rfl)) dX4_values_59 ⟨Nat.zero_le _, Nat.zero_le _⟩) hP hD hS hA [0, 1, 2, 3, 4, 5, 6] [] rfl rfl rfl (by decide) (fun H locs hP hD hS => ?_)
      have hP : va_P (dC, dI) vwCl [(th, .inr (4, [.int (0 : Int32), .int tdd, .int tn, .ref tqA, .ref tqB, .ref tqC, .long ta, .long tb, .long tc, .long tp, .long tq, .long tr, .long ts, .int tsome, .ref tqL, .int tlet, .ref tqW, .ref tqO])), (tqA, .inl (cyJ, 40, .inr (.inl tla))), (tqB, .inl (cyJ, 40, .inr (.inl tlb))), (tqC, .inl (cyJ, 40, .inr (.inl tlc))), (tqL, .inl (cyJ, 7, .inr (.inl tlast))), (tqW, .inl (cyC, 40, .inl twd)), (tqO, .inl (cyI, 5, .inl topn))] H := hP
      have hD : va_D A [(th, .inr (4, [.int (0 : Int32), .int tdd, .int tn, .ref tqA, .ref tqB, .ref tqC, .long ta, .long tb, .long tc, .long tp, .long tq, .long tr, .long ts, .int tsome, .ref tqL, .int tlet, .ref tqW, .ref tqO])), (tqA, .inl (cyJ, 40, .inr (.inl tla))), (tqB, .inl (cyJ, 40, .inr (.inl tlb))), (tqC, .inl (cyJ, 40, .inr (.inl tlc))), (tqL, .inl (cyJ, 7, .inr (.inl tlast))), (tqW, .inl (cyC, 40, .inl twd)), (tqO, .inl (cyI, 5, .inl topn))] := hD
      refine lv_lstore (lv' := [(6, .long r11), (4, .long r8), (0, .ref th), (1, .int p0), (2, .int p1), (3, .int p2)]) hx hb dX4_values_62 hl (by decide) rfl (fun ls hl => ?_)
      refine lv_iconst (v := 0) hx hb dX4_values_64 (by decide) ?_
      refine lv_istore (lv' := [(8, .int (0 : Int32)), (6, .long r11), (4, .long r8), (0, .ref th), (1, .int p0), (2, .int p1), (3, .int p2)]) hx hb dX4_values_65 hl (by decide) rfl (fun ls hl => ?_)
      refine lv_lload hx hb dX4_values_67 (lv_at hl 2 rfl) ?_
      refine lv_lneg hx hb dX4_values_69 ?_
      refine lv_topl (fun x13 ex13 => ?_)
      have h := dm_lu ex13 h
      refine lv_lstore (lv' := [(9, .long x13), (8, .int (0 : Int32)), (6, .long r11), (4, .long r8), (0, .ref th), (1, .int p0), (2, .int p1), (3, .int p2)]) hx hb dX4_values_70 hl (by decide) rfl (fun ls hl => ?_)
      have L72 : ∀ (n72 : Nat) (v14 : Int64) (v15 : Int32) (H : Heap) (locs : List Loc) (ls : Array Slot), f_X4_values_L72 tla tlb tlc p0 p1 p2 r8 r11 n72 v14 v15 = some (rv, tthr') → va_P (dC, dI) vwCl [(th, .inr (4, [.int (0 : Int32), .int tdd, .int tn, .ref tqA, .ref tqB, .ref tqC, .long ta, .long tb, .long tc, .long tp, .long tq, .long tr, .long ts, .int tsome, .ref tqL, .int tlet, .ref tqW, .ref tqO])), (tqA, .inl (cyJ, 40, .inr (.inl tla))), (tqB, .inl (cyJ, 40, .inr (.inl tlb))), (tqC, .inl (cyJ, 40, .inr (.inl tlc))), (tqL, .inl (cyJ, 7, .inr (.inl tlast))), (tqW, .inl (cyC, 40, .inl twd)), (tqO, .inl (cyI, 5, .inl topn))] H → va_D A [(th, .inr (4, [.int (0 : Int32), .int tdd, .int tn, .ref tqA, .ref tqB, .ref tqC, .long ta, .long tb, .long tc, .long tp, .long tq, .long tr, .long ts, .int tsome, .ref tqL, .int tlet, .ref tqW, .ref tqO])), (tqA, .inl (cyJ, 40, .inr (.inl tla))), (tqB, .inl (cyJ, 40, .inr (.inl tlb))), (tqC, .inl (cyJ, 40, .inr (.inl tlc))), (tqL, .inl (cyJ, 7, .inr (.inl tlast))), (tqW, .inl (cyC, 40, .inl twd)), (tqO, .inl (cyI, 5, .inl topn))] → va_S A s.heap H locs → lv_has ls 13 [(9, .long v14), (8, .int v15), (6, .long r11), (4, .long r8), (0, .ref th), (1, .int p0), (2, .int p1), (3, .int p2)] → W p l e (headSpec wsX4_values { frames := 2, cells := 0, slots := 0, locals := 48 }).room s m ([Value.ref th, Value.int p0, Value.int p1, Value.int p2] : List Value).toArray below meth c H locs 0 0 QQ (F0 m 72 ls []) := by
        intro n72
        induction n72 with
        | zero =>
          intro v14 v15 H locs ls h
          exact nomatch (show (none : Option (Int32 × Int32)) = some _ from h)
        | succ n72 ih72 =>
          intro v14 v15 H locs ls h hP hD hS hl
          rw [f_X4_values_L72] at h
          refine lv_lload hx hb dX4_values_72 (lv_at hl 0 rfl) ?_
          refine lv_lload hx hb dX4_values_74 (lv_at hl 3 rfl) ?_
          refine mc_lif_gt (tgt := 153) hx hb dX4_values_76 dX4_values_77 (by decide) (fun hc16 => ?_) (fun hc16 => ?_)
          · have h := dm_t hc16 h
            refine lv_iload hx hb dX4_values_153 (lv_at hl 1 rfl) ?_
            obtain ⟨hE0, hE1⟩ := dm_i2 h
            subst hE0; subst hE1
            rw [hQQ]
            have hP9 := hP.sub (ws' := [(th, .inr (4, [.int (0 : Int32), .int tdd, .int tn, .ref tqA, .ref tqB, .ref tqC, .long ta, .long tb, .long tc, .long tp, .long tq, .long tr, .long ts, .int tsome, .ref tqL, .int tlet, .ref tqW, .ref tqO])), (tqA, .inl (cyJ, 40, .inr (.inl tla))), (tqB, .inl (cyJ, 40, .inr (.inl tlb))), (tqC, .inl (cyJ, 40, .inr (.inl tlc))), (tqL, .inl (cyJ, 7, .inr (.inl tlast))), (tqW, .inl (cyC, 40, .inl twd)), (tqO, .inl (cyI, 5, .inl topn))]) [0, 1, 2, 3, 4, 5, 6] rfl
            have hD9 := hD.sub (ws' := [(th, .inr (4, [.int (0 : Int32), .int tdd, .int tn, .ref tqA, .ref tqB, .ref tqC, .long ta, .long tb, .long tc, .long tp, .long tq, .long tr, .long ts, .int tsome, .ref tqL, .int tlet, .ref tqW, .ref tqO])), (tqA, .inl (cyJ, 40, .inr (.inl tla))), (tqB, .inl (cyJ, 40, .inr (.inl tlb))), (tqC, .inl (cyJ, 40, .inr (.inl tlc))), (tqL, .inl (cyJ, 7, .inr (.inl tlast))), (tqW, .inl (cyC, 40, .inl twd)), (tqO, .inl (cyI, 5, .inl topn))]) [0, 1, 2, 3, 4, 5, 6] (by decide) rfl
            exact W.iret (v := v15) hx hb hr (fun t ht hW => ⟨⟨v15, (), rfl, rfl, by rw [ht]; exact hP9, hD9⟩, hS.F ht⟩) hS.2.2 dX4_values_155
          · have h := dm_f hc16 h
            refine lv_lload hx hb dX4_values_80 (lv_at hl 2 rfl) ?_
            refine lv_lneg hx hb dX4_values_82 ?_
            refine lv_topl (fun x17 ex17 => ?_)
            have h := dm_lu ex17 h
            refine lv_lstore (lv' := [(11, .long x17), (9, .long v14), (8, .int v15), (6, .long r11), (4, .long r8), (0, .ref th), (1, .int p0), (2, .int p1), (3, .int p2)]) hx hb dX4_values_83 hl (by decide) rfl (fun ls hl => ?_)
            have L85 : ∀ (n85 : Nat) (v18 : Int64) (v19 : Int32) (H : Heap) (locs : List Loc) (ls : Array Slot), f_X4_values_L85 tla tlb tlc p0 p1 p2 r11 v14 (fun o0 o1 => f_X4_values_L72 tla tlb tlc p0 p1 p2 r8 r11 n72 o0 o1) n85 v18 v19 = some (rv, tthr') → va_P (dC, dI) vwCl [(th, .inr (4, [.int (0 : Int32), .int tdd, .int tn, .ref tqA, .ref tqB, .ref tqC, .long ta, .long tb, .long tc, .long tp, .long tq, .long tr, .long ts, .int tsome, .ref tqL, .int tlet, .ref tqW, .ref tqO])), (tqA, .inl (cyJ, 40, .inr (.inl tla))), (tqB, .inl (cyJ, 40, .inr (.inl tlb))), (tqC, .inl (cyJ, 40, .inr (.inl tlc))), (tqL, .inl (cyJ, 7, .inr (.inl tlast))), (tqW, .inl (cyC, 40, .inl twd)), (tqO, .inl (cyI, 5, .inl topn))] H → va_D A [(th, .inr (4, [.int (0 : Int32), .int tdd, .int tn, .ref tqA, .ref tqB, .ref tqC, .long ta, .long tb, .long tc, .long tp, .long tq, .long tr, .long ts, .int tsome, .ref tqL, .int tlet, .ref tqW, .ref tqO])), (tqA, .inl (cyJ, 40, .inr (.inl tla))), (tqB, .inl (cyJ, 40, .inr (.inl tlb))), (tqC, .inl (cyJ, 40, .inr (.inl tlc))), (tqL, .inl (cyJ, 7, .inr (.inl tlast))), (tqW, .inl (cyC, 40, .inl twd)), (tqO, .inl (cyI, 5, .inl topn))] → va_S A s.heap H locs → lv_has ls 13 [(11, .long v18), (9, .long v14), (8, .int v19), (6, .long r11), (4, .long r8), (0, .ref th), (1, .int p0), (2, .int p1), (3, .int p2)] → W p l e (headSpec wsX4_values { frames := 2, cells := 0, slots := 0, locals := 48 }).room s m ([Value.ref th, Value.int p0, Value.int p1, Value.int p2] : List Value).toArray below meth c H locs 0 0 QQ (F0 m 85 ls []) := by
              intro n85
              induction n85 with
              | zero =>
                intro v18 v19 H locs ls h
                exact nomatch (show (none : Option (Int32 × Int32)) = some _ from h)
              | succ n85 ih85 =>
                intro v18 v19 H locs ls h hP hD hS hl
                rw [f_X4_values_L85] at h
                refine lv_lload hx hb dX4_values_85 (lv_at hl 0 rfl) ?_
                refine lv_lload hx hb dX4_values_87 (lv_at hl 3 rfl) ?_
                refine mc_lif_gt (tgt := 144) hx hb dX4_values_89 dX4_values_90 (by decide) (fun hc20 => ?_) (fun hc20 => ?_)
                · have h := dm_t hc20 h
                  refine lv_lload hx hb dX4_values_144 (lv_at hl 1 rfl) ?_
                  refine lv_lconst (v := 1) hx hb dX4_values_146 (by decide) ?_
                  refine lv_ladd hx hb dX4_values_147 ?_
                  refine lv_topl (fun x21 ex21 => ?_)
                  have h := dm_lu ex21 h
                  refine lv_lstore (lv' := [(9, .long x21), (11, .long v18), (8, .int v19), (6, .long r11), (4, .long r8), (0, .ref th), (1, .int p0), (2, .int p1), (3, .int p2)]) hx hb dX4_values_148 hl (by decide) rfl (fun ls hl => ?_)
                  refine lv_goto (tgt := 72) hx hb dX4_values_150 (by decide) ?_
                  exact ih72 x21 v19 H _ ls h (hP.sub [0, 1, 2, 3, 4, 5, 6] rfl) (hD.sub [0, 1, 2, 3, 4, 5, 6] (by decide) rfl) hS (lv_sub hl [0, 2, 3, 4, 5, 6, 7, 8] rfl)
                · have h := dm_f hc20 h
                  refine lv_aload_n hx hb dX4_values_93 rfl (lv_at hl 5 rfl) ?_
                  refine lv_iload_n hx hb dX4_values_94 rfl (lv_at hl 6 rfl) ?_
                  refine lv_lload hx hb dX4_values_95 (lv_at hl 1 rfl) ?_
                  refine lv_lload hx hb dX4_values_97 (lv_at hl 0 rfl) ?_
                  obtain ⟨r22, hk23, h⟩ := dm_b1s h
                  refine mc_l (wr := []) (va_runV (As := [.int p0, .long v14, .long v18]) (rest := []) ⟨hx, hb, hml, hown, hts⟩ (c_X4_at l dC dI cyI cyJ cyC th tqA tqB tqC tqL tqW tqO H.size (0 : Int32) tdd tn tla tlb tlc ta tb tc tp tq tr ts tsome tlast tlet twd topn p0 v14 v18 r22 hk23) (cwV 3 hts gX4_values_X4_at rfl rfl rfl (by decide +kernel) ⟨(Nat.le_of_ble_eq_true rfl), (Nat.le_of_ble_eq_true rfl)⟩) (mc_preV hK (hP.sub (ws' := [(th, .inr (4, [.int (0 : Int32), .int tdd, .int tn, .ref tqA, .ref tqB, .ref tqC, .long ta, .long tb, .long tc, .long tp, .long tq, .long tr, .long ts, .int tsome, .ref tqL, .int tlet, .ref tqW, .ref tqO])), (tqA, .inl (cyJ, 40, .inr (.inl tla))), (tqB, .inl (cyJ, 40, .inr (.inl tlb))), (tqC, .inl (cyJ, 40, .inr (.inl tlc))), (tqL, .inl (cyJ, 7, .inr (.inl tlast))), (tqW, .inl (cyC, 40, .inl twd)), (tqO, .inl (cyI, 5, .inl topn))]) [0, 1, 2, 3, 4, 5, 6] rfl) (hD.sub (ws' := [(th, .inr (4, [.int (0 : Int32), .int tdd, .int tn, .ref tqA, .ref tqB, .ref tqC, .long ta, .long tb, .long tc, .long tp, .long tq, .long tr, .long ts, .int tsome, .ref tqL, .int tlet, .ref tqW, .ref tqO])), (tqA, .inl (cyJ, 40, .inr (.inl tla))), (tqB, .inl (cyJ, 40, .inr (.inl tlb))), (tqC, .inl (cyJ, 40, .inr (.inl tlc))), (tqL, .inl (cyJ, 7, .inr (.inl tlast))), (tqW, .inl (cyC, 40, .inl twd)), (tqO, .inl (cyI, 5, .inl topn))]) [0, 1, 2, 3, 4, 5, 6] (by decide) rfl) hnw rfl rfl) rfl rfl hl.1 rfl (lv_room (Nat.le_of_ble_eq_true rfl)) dX4_values_99 ⟨Nat.zero_le _, Nat.zero_le _⟩) hP hD hS hA [0, 1, 2, 3, 4, 5, 6] [] rfl rfl rfl (by decide) (fun H locs hP hD hS => ?_)
                  have hP : va_P (dC, dI) vwCl [(th, .inr (4, [.int (0 : Int32), .int tdd, .int tn, .ref tqA, .ref tqB, .ref tqC, .long ta, .long tb, .long tc, .long tp, .long tq, .long tr, .long ts, .int tsome, .ref tqL, .int tlet, .ref tqW, .ref tqO])), (tqA, .inl (cyJ, 40, .inr (.inl tla))), (tqB, .inl (cyJ, 40, .inr (.inl tlb))), (tqC, .inl (cyJ, 40, .inr (.inl tlc))), (tqL, .inl (cyJ, 7, .inr (.inl tlast))), (tqW, .inl (cyC, 40, .inl twd)), (tqO, .inl (cyI, 5, .inl topn))] H := hP
                  have hD : va_D A [(th, .inr (4, [.int (0 : Int32), .int tdd, .int tn, .ref tqA, .ref tqB, .ref tqC, .long ta, .long tb, .long tc, .long tp, .long tq, .long tr, .long ts, .int tsome, .ref tqL, .int tlet, .ref tqW, .ref tqO])), (tqA, .inl (cyJ, 40, .inr (.inl tla))), (tqB, .inl (cyJ, 40, .inr (.inl tlb))), (tqC, .inl (cyJ, 40, .inr (.inl tlc))), (tqL, .inl (cyJ, 7, .inr (.inl tlast))), (tqW, .inl (cyC, 40, .inl twd)), (tqO, .inl (cyI, 5, .inl topn))] := hD
                  refine lv_iload_n hx hb dX4_values_102 rfl (lv_at hl 7 rfl) ?_
                  refine lv_i2l (v := (p1).toInt64) hx hb dX4_values_103 rfl ?_
                  refine mc_lif_ne (tgt := 131) hx hb dX4_values_104 dX4_values_105 (by decide) (fun hc24 => ?_) (fun hc24 => ?_)
                  · have h := dm_f hc24 h
                    refine lv_iload hx hb dX4_values_131 (lv_at hl 2 rfl) ?_
                    refine lv_istore (lv' := [(8, .int v19), (11, .long v18), (9, .long v14), (6, .long r11), (4, .long r8), (0, .ref th), (1, .int p0), (2, .int p1), (3, .int p2)]) hx hb dX4_values_133 hl (by decide) rfl (fun ls hl => ?_)
                    refine lv_lload hx hb dX4_values_135 (lv_at hl 1 rfl) ?_
                    refine lv_lconst (v := 1) hx hb dX4_values_137 (by decide) ?_
                    refine lv_ladd hx hb dX4_values_138 ?_
                    refine lv_topl (fun x25 ex25 => ?_)
                    have h := dm_lu ex25 h
                    refine lv_lstore (lv' := [(11, .long x25), (8, .int v19), (9, .long v14), (6, .long r11), (4, .long r8), (0, .ref th), (1, .int p0), (2, .int p1), (3, .int p2)]) hx hb dX4_values_139 hl (by decide) rfl (fun ls hl => ?_)
                    refine lv_goto (tgt := 85) hx hb dX4_values_141 (by decide) ?_
                    exact ih85 x25 v19 H _ ls h (hP.sub [0, 1, 2, 3, 4, 5, 6] rfl) (hD.sub [0, 1, 2, 3, 4, 5, 6] (by decide) rfl) hS (lv_sub hl [0, 2, 1, 3, 4, 5, 6, 7, 8] rfl)
                  · have h := dm_t hc24 h
                    refine lv_iload_n hx hb dX4_values_108 rfl (lv_at hl 8 rfl) ?_
                    refine lv_if_eq (tgt := 124) hx hb dX4_values_109 (by decide) (fun hc26 => ?_) (fun hc26 => ?_)
                    · have h := dm_t hc26 h
                      refine lv_iload hx hb dX4_values_124 (lv_at hl 2 rfl) ?_
                      refine lv_iconst (v := 1) hx hb dX4_values_126 (by decide) ?_
                      refine lv_iadd hx hb dX4_values_127 ?_
                      refine lv_goto (tgt := 133) hx hb dX4_values_128 (by decide) ?_
                      refine lv_topi (fun x27 ex27 => ?_)
                      have h := dm_lu ex27 h
                      refine lv_istore (lv' := [(8, .int x27), (11, .long v18), (9, .long v14), (6, .long r11), (4, .long r8), (0, .ref th), (1, .int p0), (2, .int p1), (3, .int p2)]) hx hb dX4_values_133 hl (by decide) rfl (fun ls hl => ?_)
                      refine lv_lload hx hb dX4_values_135 (lv_at hl 1 rfl) ?_
                      refine lv_lconst (v := 1) hx hb dX4_values_137 (by decide) ?_
                      refine lv_ladd hx hb dX4_values_138 ?_
                      refine lv_topl (fun x28 ex28 => ?_)
                      have h := dm_lu ex28 h
                      refine lv_lstore (lv' := [(11, .long x28), (8, .int x27), (9, .long v14), (6, .long r11), (4, .long r8), (0, .ref th), (1, .int p0), (2, .int p1), (3, .int p2)]) hx hb dX4_values_139 hl (by decide) rfl (fun ls hl => ?_)
                      refine lv_goto (tgt := 85) hx hb dX4_values_141 (by decide) ?_
                      exact ih85 x28 x27 H _ ls h (hP.sub [0, 1, 2, 3, 4, 5, 6] rfl) (hD.sub [0, 1, 2, 3, 4, 5, 6] (by decide) rfl) hS (lv_sub hl [0, 2, 1, 3, 4, 5, 6, 7, 8] rfl)
                    · have h := dm_f hc26 h
                      refine lv_lload hx hb dX4_values_112 (lv_at hl 1 rfl) ?_
                      refine lv_lload hx hb dX4_values_114 (lv_at hl 0 rfl) ?_
                      obtain ⟨r29, hk30, h⟩ := dm_b1s h
                      refine mc_l (wr := [(th, .inr (4, [.int (0 : Int32), .int tdd, .int tn, .ref tqA, .ref tqB, .ref tqC, .long ta, .long tb, .long tc, .long tp, .long tq, .long tr, .long ts, .int tsome, .ref tqL, .int tlet, .ref tqW, .ref tqO])), (tqA, .inl (cyJ, 40, .inr (.inl tla))), (tqB, .inl (cyJ, 40, .inr (.inl tlb))), (tqC, .inl (cyJ, 40, .inr (.inl tlc))), (tqL, .inl (cyJ, 7, .inr (.inl tlast))), (tqW, .inl (cyC, 40, .inl twd)), (tqO, .inl (cyI, 5, .inl topn))]) (va_runS (As := [.long v14, .long v18]) (rest := []) ⟨hx, hb, hml, hown, hts⟩ (c_X4_common l dC dI cyI cyJ cyC H.size v14 v18 r29 hk30) (va_cwS 2 hts gX4_values_X4_common rfl rfl rfl (by decide +kernel) ⟨(Nat.le_of_ble_eq_true rfl), (Nat.le_of_ble_eq_true rfl)⟩) (mc_preS hK (hP.sub (ws' := []) [] rfl) (hD.sub (ws' := []) [] (by decide) rfl) hnw) rfl rfl hl.1 rfl (lv_room (Nat.le_of_ble_eq_true rfl)) dX4_values_116 ⟨Nat.zero_le _, Nat.zero_le _⟩) hP hD hS hA [] [0, 1, 2, 3, 4, 5, 6] rfl rfl rfl (by decide) (fun H locs hP hD hS => ?_)
                      have hP : va_P (dC, dI) vwCl [(th, .inr (4, [.int (0 : Int32), .int tdd, .int tn, .ref tqA, .ref tqB, .ref tqC, .long ta, .long tb, .long tc, .long tp, .long tq, .long tr, .long ts, .int tsome, .ref tqL, .int tlet, .ref tqW, .ref tqO])), (tqA, .inl (cyJ, 40, .inr (.inl tla))), (tqB, .inl (cyJ, 40, .inr (.inl tlb))), (tqC, .inl (cyJ, 40, .inr (.inl tlc))), (tqL, .inl (cyJ, 7, .inr (.inl tlast))), (tqW, .inl (cyC, 40, .inl twd)), (tqO, .inl (cyI, 5, .inl topn))] H := hP
                      have hD : va_D A [(th, .inr (4, [.int (0 : Int32), .int tdd, .int tn, .ref tqA, .ref tqB, .ref tqC, .long ta, .long tb, .long tc, .long tp, .long tq, .long tr, .long ts, .int tsome, .ref tqL, .int tlet, .ref tqW, .ref tqO])), (tqA, .inl (cyJ, 40, .inr (.inl tla))), (tqB, .inl (cyJ, 40, .inr (.inl tlb))), (tqC, .inl (cyJ, 40, .inr (.inl tlc))), (tqL, .inl (cyJ, 7, .inr (.inl tlast))), (tqW, .inl (cyC, 40, .inl twd)), (tqO, .inl (cyI, 5, .inl topn))] := hD
                      refine lv_lconst (v := 1) hx hb dX4_values_119 (by decide) ?_
                      refine mc_lif_ne (tgt := 131) hx hb dX4_values_120 dX4_values_121 (by decide) (fun hc31 => ?_) (fun hc31 => ?_)
                      · have h := dm_f hc31 h
                        refine lv_iload hx hb dX4_values_131 (lv_at hl 2 rfl) ?_
                        refine lv_istore (lv' := [(8, .int v19), (11, .long v18), (9, .long v14), (6, .long r11), (4, .long r8), (0, .ref th), (1, .int p0), (2, .int p1), (3, .int p2)]) hx hb dX4_values_133 hl (by decide) rfl (fun ls hl => ?_)
                        refine lv_lload hx hb dX4_values_135 (lv_at hl 1 rfl) ?_
                        refine lv_lconst (v := 1) hx hb dX4_values_137 (by decide) ?_
                        refine lv_ladd hx hb dX4_values_138 ?_
                        refine lv_topl (fun x32 ex32 => ?_)
                        have h := dm_lu ex32 h
                        refine lv_lstore (lv' := [(11, .long x32), (8, .int v19), (9, .long v14), (6, .long r11), (4, .long r8), (0, .ref th), (1, .int p0), (2, .int p1), (3, .int p2)]) hx hb dX4_values_139 hl (by decide) rfl (fun ls hl => ?_)
                        refine lv_goto (tgt := 85) hx hb dX4_values_141 (by decide) ?_
                        exact ih85 x32 v19 H _ ls h (hP.sub [0, 1, 2, 3, 4, 5, 6] rfl) (hD.sub [0, 1, 2, 3, 4, 5, 6] (by decide) rfl) hS (lv_sub hl [0, 2, 1, 3, 4, 5, 6, 7, 8] rfl)
                      · have h := dm_t hc31 h
                        refine lv_iload hx hb dX4_values_124 (lv_at hl 2 rfl) ?_
                        refine lv_iconst (v := 1) hx hb dX4_values_126 (by decide) ?_
                        refine lv_iadd hx hb dX4_values_127 ?_
                        refine lv_goto (tgt := 133) hx hb dX4_values_128 (by decide) ?_
                        refine lv_topi (fun x33 ex33 => ?_)
                        have h := dm_lu ex33 h
                        refine lv_istore (lv' := [(8, .int x33), (11, .long v18), (9, .long v14), (6, .long r11), (4, .long r8), (0, .ref th), (1, .int p0), (2, .int p1), (3, .int p2)]) hx hb dX4_values_133 hl (by decide) rfl (fun ls hl => ?_)
                        refine lv_lload hx hb dX4_values_135 (lv_at hl 1 rfl) ?_
                        refine lv_lconst (v := 1) hx hb dX4_values_137 (by decide) ?_
                        refine lv_ladd hx hb dX4_values_138 ?_
                        refine lv_topl (fun x34 ex34 => ?_)
                        have h := dm_lu ex34 h
                        refine lv_lstore (lv' := [(11, .long x34), (8, .int x33), (9, .long v14), (6, .long r11), (4, .long r8), (0, .ref th), (1, .int p0), (2, .int p1), (3, .int p2)]) hx hb dX4_values_139 hl (by decide) rfl (fun ls hl => ?_)
                        refine lv_goto (tgt := 85) hx hb dX4_values_141 (by decide) ?_
                        exact ih85 x34 x33 H _ ls h (hP.sub [0, 1, 2, 3, 4, 5, 6] rfl) (hD.sub [0, 1, 2, 3, 4, 5, 6] (by decide) rfl) hS (lv_sub hl [0, 2, 1, 3, 4, 5, 6, 7, 8] rfl)
            exact L85 100000 x17 v15 H _ ls h hP hD hS hl
      exact L72 100000 x13 (0 : Int32) H _ ls h hP hD hS hl
    · have h := dm_f hc6 h
      refine lv_aload_n hx hb dX4_values_25 rfl (lv_at hl 0 rfl) ?_
      refine lv_iconst (v := 2) hx hb dX4_values_26 (by decide) ?_
      obtain ⟨r35, w36, hk37, h⟩ := dm_b2s h
      refine mc_i (wr := []) (va_runV (As := [.int (2 : Int32)]) (rest := []) ⟨hx, hb, hml, hown, hts⟩ (c_X4_refuse l dC dI cyI cyJ cyC th tqA tqB tqC tqL tqW tqO H.size tthr tdd tn tla tlb tlc ta tb tc tp tq tr ts tsome tlast tlet twd topn (2 : Int32) r35 w36 hk37) (cwV 1 hts gX4_values_X4_refuse rfl rfl rfl (by decide +kernel) ⟨(Nat.le_of_ble_eq_true rfl), (Nat.le_of_ble_eq_true rfl)⟩) (mc_preV hK (hP.sub (ws' := [(th, .inr (4, [.int tthr, .int tdd, .int tn, .ref tqA, .ref tqB, .ref tqC, .long ta, .long tb, .long tc, .long tp, .long tq, .long tr, .long ts, .int tsome, .ref tqL, .int tlet, .ref tqW, .ref tqO])), (tqA, .inl (cyJ, 40, .inr (.inl tla))), (tqB, .inl (cyJ, 40, .inr (.inl tlb))), (tqC, .inl (cyJ, 40, .inr (.inl tlc))), (tqL, .inl (cyJ, 7, .inr (.inl tlast))), (tqW, .inl (cyC, 40, .inl twd)), (tqO, .inl (cyI, 5, .inl topn))]) [0, 1, 2, 3, 4, 5, 6] rfl) (hD.sub (ws' := [(th, .inr (4, [.int tthr, .int tdd, .int tn, .ref tqA, .ref tqB, .ref tqC, .long ta, .long tb, .long tc, .long tp, .long tq, .long tr, .long ts, .int tsome, .ref tqL, .int tlet, .ref tqW, .ref tqO])), (tqA, .inl (cyJ, 40, .inr (.inl tla))), (tqB, .inl (cyJ, 40, .inr (.inl tlb))), (tqC, .inl (cyJ, 40, .inr (.inl tlc))), (tqL, .inl (cyJ, 7, .inr (.inl tlast))), (tqW, .inl (cyC, 40, .inl twd)), (tqO, .inl (cyI, 5, .inl topn))]) [0, 1, 2, 3, 4, 5, 6] (by decide) rfl) hnw rfl rfl) rfl rfl hl.1 rfl (lv_room (Nat.le_of_ble_eq_true rfl)) dX4_values_27 ⟨Nat.zero_le _, Nat.zero_le _⟩) hP hD hS hA [0, 1, 2, 3, 4, 5, 6] [] rfl rfl rfl (by decide) (fun H locs hP hD hS => ?_)
      have hP : va_P (dC, dI) vwCl [(th, .inr (4, [.int w36, .int tdd, .int tn, .ref tqA, .ref tqB, .ref tqC, .long ta, .long tb, .long tc, .long tp, .long tq, .long tr, .long ts, .int tsome, .ref tqL, .int tlet, .ref tqW, .ref tqO])), (tqA, .inl (cyJ, 40, .inr (.inl tla))), (tqB, .inl (cyJ, 40, .inr (.inl tlb))), (tqC, .inl (cyJ, 40, .inr (.inl tlc))), (tqL, .inl (cyJ, 7, .inr (.inl tlast))), (tqW, .inl (cyC, 40, .inl twd)), (tqO, .inl (cyI, 5, .inl topn))] H := hP
      have hD : va_D A [(th, .inr (4, [.int w36, .int tdd, .int tn, .ref tqA, .ref tqB, .ref tqC, .long ta, .long tb, .long tc, .long tp, .long tq, .long tr, .long ts, .int tsome, .ref tqL, .int tlet, .ref tqW, .ref tqO])), (tqA, .inl (cyJ, 40, .inr (.inl tla))), (tqB, .inl (cyJ, 40, .inr (.inl tlb))), (tqC, .inl (cyJ, 40, .inr (.inl tlc))), (tqL, .inl (cyJ, 7, .inr (.inl tlast))), (tqW, .inl (cyC, 40, .inl twd)), (tqO, .inl (cyI, 5, .inl topn))] := hD
      obtain ⟨hE0, hE1⟩ := dm_i2 h
      subst hE0; subst hE1
      rw [hQQ]
      have hP9 := hP.sub (ws' := [(th, .inr (4, [.int w36, .int tdd, .int tn, .ref tqA, .ref tqB, .ref tqC, .long ta, .long tb, .long tc, .long tp, .long tq, .long tr, .long ts, .int tsome, .ref tqL, .int tlet, .ref tqW, .ref tqO])), (tqA, .inl (cyJ, 40, .inr (.inl tla))), (tqB, .inl (cyJ, 40, .inr (.inl tlb))), (tqC, .inl (cyJ, 40, .inr (.inl tlc))), (tqL, .inl (cyJ, 7, .inr (.inl tlast))), (tqW, .inl (cyC, 40, .inl twd)), (tqO, .inl (cyI, 5, .inl topn))]) [0, 1, 2, 3, 4, 5, 6] rfl
      have hD9 := hD.sub (ws' := [(th, .inr (4, [.int w36, .int tdd, .int tn, .ref tqA, .ref tqB, .ref tqC, .long ta, .long tb, .long tc, .long tp, .long tq, .long tr, .long ts, .int tsome, .ref tqL, .int tlet, .ref tqW, .ref tqO])), (tqA, .inl (cyJ, 40, .inr (.inl tla))), (tqB, .inl (cyJ, 40, .inr (.inl tlb))), (tqC, .inl (cyJ, 40, .inr (.inl tlc))), (tqL, .inl (cyJ, 7, .inr (.inl tlast))), (tqW, .inl (cyC, 40, .inl twd)), (tqO, .inl (cyI, 5, .inl topn))]) [0, 1, 2, 3, 4, 5, 6] (by decide) rfl
      exact W.iret (v := r35) hx hb hr (fun t ht hW => ⟨⟨r35, (), rfl, rfl, by rw [ht]; exact hP9, hD9⟩, hS.F ht⟩) hS.2.2 dX4_values_30
  · have h := dm_t hc3 h
    refine lv_aload_n hx hb dX4_values_8 rfl (lv_at hl 0 rfl) ?_
    refine lv_iconst (v := 1) hx hb dX4_values_9 (by decide) ?_
    obtain ⟨r38, w39, hk40, h⟩ := dm_b2s h
    refine mc_i (wr := []) (va_runV (As := [.int (1 : Int32)]) (rest := []) ⟨hx, hb, hml, hown, hts⟩ (c_X4_refuse l dC dI cyI cyJ cyC th tqA tqB tqC tqL tqW tqO H.size tthr tdd tn tla tlb tlc ta tb tc tp tq tr ts tsome tlast tlet twd topn (1 : Int32) r38 w39 hk40) (cwV 1 hts gX4_values_X4_refuse rfl rfl rfl (by decide +kernel) ⟨(Nat.le_of_ble_eq_true rfl), (Nat.le_of_ble_eq_true rfl)⟩) (mc_preV hK (hP.sub (ws' := [(th, .inr (4, [.int tthr, .int tdd, .int tn, .ref tqA, .ref tqB, .ref tqC, .long ta, .long tb, .long tc, .long tp, .long tq, .long tr, .long ts, .int tsome, .ref tqL, .int tlet, .ref tqW, .ref tqO])), (tqA, .inl (cyJ, 40, .inr (.inl tla))), (tqB, .inl (cyJ, 40, .inr (.inl tlb))), (tqC, .inl (cyJ, 40, .inr (.inl tlc))), (tqL, .inl (cyJ, 7, .inr (.inl tlast))), (tqW, .inl (cyC, 40, .inl twd)), (tqO, .inl (cyI, 5, .inl topn))]) [0, 1, 2, 3, 4, 5, 6] rfl) (hD.sub (ws' := [(th, .inr (4, [.int tthr, .int tdd, .int tn, .ref tqA, .ref tqB, .ref tqC, .long ta, .long tb, .long tc, .long tp, .long tq, .long tr, .long ts, .int tsome, .ref tqL, .int tlet, .ref tqW, .ref tqO])), (tqA, .inl (cyJ, 40, .inr (.inl tla))), (tqB, .inl (cyJ, 40, .inr (.inl tlb))), (tqC, .inl (cyJ, 40, .inr (.inl tlc))), (tqL, .inl (cyJ, 7, .inr (.inl tlast))), (tqW, .inl (cyC, 40, .inl twd)), (tqO, .inl (cyI, 5, .inl topn))]) [0, 1, 2, 3, 4, 5, 6] (by decide) rfl) hnw rfl rfl) rfl rfl hl.1 rfl (lv_room (Nat.le_of_ble_eq_true rfl)) dX4_values_10 ⟨Nat.zero_le _, Nat.zero_le _⟩) hP hD hS hA [0, 1, 2, 3, 4, 5, 6] [] rfl rfl rfl (by decide) (fun H locs hP hD hS => ?_)
    have hP : va_P (dC, dI) vwCl [(th, .inr (4, [.int w39, .int tdd, .int tn, .ref tqA, .ref tqB, .ref tqC, .long ta, .long tb, .long tc, .long tp, .long tq, .long tr, .long ts, .int tsome, .ref tqL, .int tlet, .ref tqW, .ref tqO])), (tqA, .inl (cyJ, 40, .inr (.inl tla))), (tqB, .inl (cyJ, 40, .inr (.inl tlb))), (tqC, .inl (cyJ, 40, .inr (.inl tlc))), (tqL, .inl (cyJ, 7, .inr (.inl tlast))), (tqW, .inl (cyC, 40, .inl twd)), (tqO, .inl (cyI, 5, .inl topn))] H := hP
    have hD : va_D A [(th, .inr (4, [.int w39, .int tdd, .int tn, .ref tqA, .ref tqB, .ref tqC, .long ta, .long tb, .long tc, .long tp, .long tq, .long tr, .long ts, .int tsome, .ref tqL, .int tlet, .ref tqW, .ref tqO])), (tqA, .inl (cyJ, 40, .inr (.inl tla))), (tqB, .inl (cyJ, 40, .inr (.inl tlb))), (tqC, .inl (cyJ, 40, .inr (.inl tlc))), (tqL, .inl (cyJ, 7, .inr (.inl tlast))), (tqW, .inl (cyC, 40, .inl twd)), (tqO, .inl (cyI, 5, .inl topn))] := hD
    obtain ⟨hE0, hE1⟩ := dm_i2 h
    subst hE0; subst hE1
    rw [hQQ]
    have hP9 := hP.sub (ws' := [(th, .inr (4, [.int w39, .int tdd, .int tn, .ref tqA, .ref tqB, .ref tqC, .long ta, .long tb, .long tc, .long tp, .long tq, .long tr, .long ts, .int tsome, .ref tqL, .int tlet, .ref tqW, .ref tqO])), (tqA, .inl (cyJ, 40, .inr (.inl tla))), (tqB, .inl (cyJ, 40, .inr (.inl tlb))), (tqC, .inl (cyJ, 40, .inr (.inl tlc))), (tqL, .inl (cyJ, 7, .inr (.inl tlast))), (tqW, .inl (cyC, 40, .inl twd)), (tqO, .inl (cyI, 5, .inl topn))]) [0, 1, 2, 3, 4, 5, 6] rfl
    have hD9 := hD.sub (ws' := [(th, .inr (4, [.int w39, .int tdd, .int tn, .ref tqA, .ref tqB, .ref tqC, .long ta, .long tb, .long tc, .long tp, .long tq, .long tr, .long ts, .int tsome, .ref tqL, .int tlet, .ref tqW, .ref tqO])), (tqA, .inl (cyJ, 40, .inr (.inl tla))), (tqB, .inl (cyJ, 40, .inr (.inl tlb))), (tqC, .inl (cyJ, 40, .inr (.inl tlc))), (tqL, .inl (cyJ, 7, .inr (.inl tlast))), (tqW, .inl (cyC, 40, .inl twd)), (tqO, .inl (cyI, 5, .inl topn))]) [0, 1, 2, 3, 4, 5, 6] (by decide) rfl
    exact W.iret (v := r38) hx hb hr (fun t ht hW => ⟨⟨r38, (), rfl, rfl, by rw [ht]; exact hP9, hD9⟩, hS.F ht⟩) hS.2.2 dX4_values_13

def f_X4_prime_L90 (tla : Nat → Int64) (tlb : Nat → Int64) (tlc : Nat → Int64) (p0 : Int32) (p1 : Int32) (r19 : Int64) (v22 : Int64) (k79 : Int64 → Int64 → Option (Int32 × Int32 × Int64 × Int64 × Int64 × Int64 × Int64 × Int64 × Int64)) : Nat → Int64 → Int64 → Option (Int32 × Int32 × Int64 × Int64 × Int64 × Int64 × Int64 × Int64 × Int64)
  | 0, _, _ => none
  | n + 1, v25, v26 =>
    if r19 < v25 then
      dm_let (v22 + (1 : Int64)) fun x28 =>
      k79 x28 v26
    else
      dm_b1 (f_X4_at tla tlb tlc p0 v22 v25) fun r29 =>
      if r29 ≤ (0 : Int64) then
        dm_let (v25 + (1 : Int64)) fun x32 =>
        f_X4_prime_L90 tla tlb tlc p0 p1 r19 v22 k79 n x32 v26
      else
        if v26 ≤ r29 then
          dm_let (v25 + (1 : Int64)) fun x34 =>
          f_X4_prime_L90 tla tlb tlc p0 p1 r19 v22 k79 n x34 v26
        else
          dm_b1 (f_X4_common v22 v25) fun r35 =>
          if r35 = (1 : Int64) then
            dm_b1 (f_X4_common r29 (p1).toInt64) fun r39 =>
            if r39 = (1 : Int64) then
              dm_let (v25 + (1 : Int64)) fun x43 =>
              f_X4_prime_L90 tla tlb tlc p0 p1 r19 v22 k79 n x43 r29
            else
              dm_let (v25 + (1 : Int64)) fun x42 =>
              f_X4_prime_L90 tla tlb tlc p0 p1 r19 v22 k79 n x42 v26
          else
            dm_let (v25 + (1 : Int64)) fun x38 =>
            f_X4_prime_L90 tla tlb tlc p0 p1 r19 v22 k79 n x38 v26
def f_X4_prime_L79 (tla : Nat → Int64) (tlb : Nat → Int64) (tlc : Nat → Int64) (p0 : Int32) (p1 : Int32) (w7 : Int64) (w8 : Int64) (w9 : Int64) (w10 : Int64) (w11 : Int64) (w12 : Int64) (w13 : Int64) (r16 : Int64) (r19 : Int64)  : Nat → Int64 → Int64 → Option (Int32 × Int32 × Int64 × Int64 × Int64 × Int64 × Int64 × Int64 × Int64)
  | 0, _, _ => none
  | n + 1, v22, v23 =>
    if r16 < v22 then
      some ((v23).toInt32, (0 : Int32), w7, w8, w9, w10, w11, w12, w13)
    else
      f_X4_prime_L90 tla tlb tlc p0 p1 r19 v22 (fun o0 o1 => f_X4_prime_L79 tla tlb tlc p0 p1 w7 w8 w9 w10 w11 w12 w13 r16 r19 n o0 o1) 100000 (0 : Int64) v23
def f_X4_prime (tdd : Int32) (tn : Int32) (tla : Nat → Int64) (tlb : Nat → Int64) (tlc : Nat → Int64) (ta : Int64) (tb : Int64) (tc : Int64) (tp : Int64) (tq : Int64) (tr : Int64) (ts : Int64) (p0 : Int32) (p1 : Int32) : Option (Int32 × Int32 × Int64 × Int64 × Int64 × Int64 × Int64 × Int64 × Int64) :=
  dm_b1 (f_X4_isClass tn p0) fun r1 =>
  if r1 = 0 then
    dm_b2 (f_X4_refuse (1 : Int32)) fun r47 w48 =>
    some (r47, w48, ta, tb, tc, tp, tq, tr, ts)
  else
    dm_b1 (f_X4_outside p1 (1 : Int32) (500 : Int32)) fun r4 =>
    if r4 = 0 then
      dm_b7 (f_X4_away tla tlb tlc ta tb tc tp tq tr ts p0 (p1).toInt64) fun w7 w8 w9 w10 w11 w12 w13 =>
      dm_g (¬ (p0 < 0 ∨ 40 ≤ (p0).toNatClampNeg)) <|
      dm_b1 (f_X4_reach tdd (tlc (p0).toNatClampNeg) w7) fun r16 =>
      dm_g (¬ (p0 < 0 ∨ 40 ≤ (p0).toNatClampNeg)) <|
      dm_b1 (f_X4_reach tdd (tla (p0).toNatClampNeg) w7) fun r19 =>
      dm_let (-r16) fun x21 =>
      f_X4_prime_L79 tla tlb tlc p0 p1 w7 w8 w9 w10 w11 w12 w13 r16 r19 100000 x21 w7
    else
      dm_b2 (f_X4_refuse (2 : Int32)) fun r44 w45 =>
      some (r44, w45, ta, tb, tc, tp, tq, tr, ts)
set_option maxHeartbeats 4000000 in
set_option maxRecDepth 100000 in
theorem c_X4_prime (l : Launch) (dC : Nat → ClassId) (dI : Nat → Nat → Nat) (cyI cyJ cyC : ClassId) (th tqA tqB tqC tqL tqW tqO : Nat) (sz : Nat) (tthr : Int32) (tdd : Int32) (tn : Int32) (tla : Nat → Int64) (tlb : Nat → Int64) (tlc : Nat → Int64) (ta : Int64) (tb : Int64) (tc : Int64) (tp : Int64) (tq : Int64) (tr : Int64) (ts : Int64) (tsome : Int32) (tlast : Nat → Int64) (tlet : Int32) (twd : Nat → Int32) (topn : Nat → Int32) (p0 : Int32) (p1 : Int32) (rv : Int32) (tthr' : Int32) (ta' : Int64) (tb' : Int64) (tc' : Int64) (tp' : Int64) (tq' : Int64) (tr' : Int64) (ts' : Int64) (hf : f_X4_prime tdd tn tla tlb tlc ta tb tc tp tq tr ts p0 p1 = some (rv, tthr', ta', tb', tc', tp', tq', tr', ts')) : Met l yX4_prime wsX4_prime { frames := 3, cells := 0, slots := 0, locals := 92 } (va_Pc [.ref th, .int p0, .int p1] (mc_Pre (dC, dI) (mc_tys cyI cyJ cyC) [(th, .inr (4, [.int tthr, .int tdd, .int tn, .ref tqA, .ref tqB, .ref tqC, .long ta, .long tb, .long tc, .long tp, .long tq, .long tr, .long ts, .int tsome, .ref tqL, .int tlet, .ref tqW, .ref tqO])), (tqA, .inl (cyJ, 40, .inr (.inl tla))), (tqB, .inl (cyJ, 40, .inr (.inl tlb))), (tqC, .inl (cyJ, 40, .inr (.inl tlc))), (tqL, .inl (cyJ, 7, .inr (.inl tlast))), (tqW, .inl (cyC, 40, .inl twd)), (tqO, .inl (cyI, 5, .inl topn))] sz)) (va_Qi (fun r (_ : Unit) => r = rv) (fun _ t => mc_Post (dC, dI) (va_A [(th, .inr (4, [.int tthr, .int tdd, .int tn, .ref tqA, .ref tqB, .ref tqC, .long ta, .long tb, .long tc, .long tp, .long tq, .long tr, .long ts, .int tsome, .ref tqL, .int tlet, .ref tqW, .ref tqO])), (tqA, .inl (cyJ, 40, .inr (.inl tla))), (tqB, .inl (cyJ, 40, .inr (.inl tlb))), (tqC, .inl (cyJ, 40, .inr (.inl tlc))), (tqL, .inl (cyJ, 7, .inr (.inl tlast))), (tqW, .inl (cyC, 40, .inl twd)), (tqO, .inl (cyI, 5, .inl topn))] sz) [(th, .inr (4, [.int tthr', .int tdd, .int tn, .ref tqA, .ref tqB, .ref tqC, .long ta', .long tb', .long tc', .long tp', .long tq', .long tr', .long ts', .int tsome, .ref tqL, .int tlet, .ref tqW, .ref tqO])), (tqA, .inl (cyJ, 40, .inr (.inl tla))), (tqB, .inl (cyJ, 40, .inr (.inl tlb))), (tqC, .inl (cyJ, 40, .inr (.inl tlc))), (tqL, .inl (cyJ, 7, .inr (.inl tlast))), (tqW, .inl (cyC, 40, .inl twd)), (tqO, .inl (cyI, 5, .inl topn))] t) (va_A [(th, .inr (4, [.int tthr, .int tdd, .int tn, .ref tqA, .ref tqB, .ref tqC, .long ta, .long tb, .long tc, .long tp, .long tq, .long tr, .long ts, .int tsome, .ref tqL, .int tlet, .ref tqW, .ref tqO])), (tqA, .inl (cyJ, 40, .inr (.inl tla))), (tqB, .inl (cyJ, 40, .inr (.inl tlb))), (tqC, .inl (cyJ, 40, .inr (.inl tlc))), (tqL, .inl (cyJ, 7, .inr (.inl tlast))), (tqW, .inl (cyC, 40, .inl twd)), (tqO, .inl (cyI, 5, .inl topn))] sz)) 0 0 (va_A [(th, .inr (4, [.int tthr, .int tdd, .int tn, .ref tqA, .ref tqB, .ref tqC, .long ta, .long tb, .long tc, .long tp, .long tq, .long tr, .long ts, .int tsome, .ref tqL, .int tlet, .ref tqW, .ref tqO])), (tqA, .inl (cyJ, 40, .inr (.inl tla))), (tqB, .inl (cyJ, 40, .inr (.inl tlb))), (tqC, .inl (cyJ, 40, .inr (.inl tlc))), (tqL, .inl (cyJ, 7, .inr (.inl tlast))), (tqW, .inl (cyC, 40, .inl twd)), (tqO, .inl (cyI, 5, .inl topn))] sz) := by
  refine Met.ofW (cc := cX4_prime) (maxL := 15) (ret := (some .int)) (by decide +kernel) rfl ?_
  intro p e s m args below meth c s₁ B hml hv
  obtain ⟨rfl, hsz, hP, hK, hD0, hnw⟩ := hv
  have hx := B.exec
  have hb := B.bytes
  have hr := B.returns
  have hts := atoms_spec (ws := wsX4_prime) B.pre
  have hown : s.vm.findClass RX4 = some m.cls := findClass_of_methodNamed B.named
  have hlocks := B.notSynchronized
  have hinX4 : ∀ w ∈ wsX40, w ∈ wsX4_prime := by decide +kernel
  subst hsz
  have hD := hD0.self (sz := s.heap.size)
  generalize hAe : va_A [(th, .inr (4, [.int tthr, .int tdd, .int tn, .ref tqA, .ref tqB, .ref tqC, .long ta, .long tb, .long tc, .long tp, .long tq, .long tr, .long ts, .int tsome, .ref tqL, .int tlet, .ref tqW, .ref tqO])), (tqA, .inl (cyJ, 40, .inr (.inl tla))), (tqB, .inl (cyJ, 40, .inr (.inl tlb))), (tqC, .inl (cyJ, 40, .inr (.inl tlc))), (tqL, .inl (cyJ, 7, .inr (.inl tlast))), (tqW, .inl (cyC, 40, .inl twd)), (tqO, .inl (cyI, 5, .inl topn))] s.heap.size = A at hD ⊢
  have hA : ∀ q : Nat, s.heap.size ≤ q → A q := fun q h => by rw [← hAe]; exact Or.inr h
  have hS : va_S A s.heap s.heap [] := va_S.rf
  have hP : va_P (dC, dI) vwCl [(th, .inr (4, [.int tthr, .int tdd, .int tn, .ref tqA, .ref tqB, .ref tqC, .long ta, .long tb, .long tc, .long tp, .long tq, .long tr, .long ts, .int tsome, .ref tqL, .int tlet, .ref tqW, .ref tqO])), (tqA, .inl (cyJ, 40, .inr (.inl tla))), (tqB, .inl (cyJ, 40, .inr (.inl tlb))), (tqC, .inl (cyJ, 40, .inr (.inl tlc))), (tqL, .inl (cyJ, 7, .inr (.inl tlast))), (tqW, .inl (cyC, 40, .inl twd)), (tqO, .inl (cyI, 5, .inl topn))] s.heap := hP
  have hl := lv_entry ([.ref th, .int p0, .int p1]) (n := 15) (Nat.le_of_ble_eq_true rfl)
  rw [lg_entry_eq]
  generalize (lg_sl ([.ref th, .int p0, .int p1]) ++ List.replicate (15 - (lg_sl ([.ref th, .int p0, .int p1])).length) Slot.unset).toArray = ls at hl ⊢
  have hl : lv_has ls 15 [(0, .ref th), (1, .int p0), (2, .int p1)] := hl
  obtain ⟨QQ, hQQ⟩ : ∃ Q, Q = MQ below (va_Qi (fun r (_ : Unit) => r = rv) (fun _ t => mc_Post (dC, dI) A [(th, .inr (4, [.int tthr', .int tdd, .int tn, .ref tqA, .ref tqB, .ref tqC, .long ta', .long tb', .long tc', .long tp', .long tq', .long tr', .long ts', .int tsome, .ref tqL, .int tlet, .ref tqW, .ref tqO])), (tqA, .inl (cyJ, 40, .inr (.inl tla))), (tqB, .inl (cyJ, 40, .inr (.inl tlb))), (tqC, .inl (cyJ, 40, .inr (.inl tlc))), (tqL, .inl (cyJ, 7, .inr (.inl tlast))), (tqW, .inl (cyC, 40, .inl twd)), (tqO, .inl (cyI, 5, .inl topn))] t) A) ([Value.ref th, Value.int p0, Value.int p1] : List Value).toArray s 0 0 A := ⟨_, rfl⟩
  rw [← hQQ]
  have h := hf
  unfold f_X4_prime at h
  refine lv_aload_n hx hb dX4_prime_0 rfl (lv_at hl 0 rfl) ?_
  refine lv_iload_n hx hb dX4_prime_1 rfl (lv_at hl 1 rfl) ?_
  obtain ⟨r1, hk2, h⟩ := dm_b1s h
  refine mc_i (wr := []) (va_runV (As := [.int p0]) (rest := []) ⟨hx, hb, hml, hown, hts⟩ (c_X4_isClass l dC dI cyI cyJ cyC th tqA tqB tqC tqL tqW tqO s.heap.size tthr tdd tn tla tlb tlc ta tb tc tp tq tr ts tsome tlast tlet twd topn p0 r1 hk2) (cwV 1 hts gX4_prime_X4_isClass rfl rfl rfl (by decide +kernel) ⟨(Nat.le_of_ble_eq_true rfl), (Nat.le_of_ble_eq_true rfl)⟩) (mc_preV hK (hP.sub (ws' := [(th, .inr (4, [.int tthr, .int tdd, .int tn, .ref tqA, .ref tqB, .ref tqC, .long ta, .long tb, .long tc, .long tp, .long tq, .long tr, .long ts, .int tsome, .ref tqL, .int tlet, .ref tqW, .ref tqO])), (tqA, .inl (cyJ, 40, .inr (.inl tla))), (tqB, .inl (cyJ, 40, .inr (.inl tlb))), (tqC, .inl (cyJ, 40, .inr (.inl tlc))), (tqL, .inl (cyJ, 7, .inr (.inl tlast))), (tqW, .inl (cyC, 40, .inl twd)), (tqO, .inl (cyI, 5, .inl topn))]) [0, 1, 2, 3, 4, 5, 6] rfl) (hD.sub (ws' := [(th, .inr (4, [.int tthr, .int tdd, .int tn, .ref tqA, .ref tqB, .ref tqC, .long ta, .long tb, .long tc, .long tp, .long tq, .long tr, .long ts, .int tsome, .ref tqL, .int tlet, .ref tqW, .ref tqO])), (tqA, .inl (cyJ, 40, .inr (.inl tla))), (tqB, .inl (cyJ, 40, .inr (.inl tlb))), (tqC, .inl (cyJ, 40, .inr (.inl tlc))), (tqL, .inl (cyJ, 7, .inr (.inl tlast))), (tqW, .inl (cyC, 40, .inl twd)), (tqO, .inl (cyI, 5, .inl topn))]) [0, 1, 2, 3, 4, 5, 6] (by decide) rfl) hnw rfl rfl) rfl rfl hl.1 rfl (lv_room (Nat.le_of_ble_eq_true rfl)) dX4_prime_2 ⟨Nat.zero_le _, Nat.zero_le _⟩) hP hD hS hA [0, 1, 2, 3, 4, 5, 6] [] rfl rfl rfl (by decide) (fun H locs hP hD hS => ?_)
  have hP : va_P (dC, dI) vwCl [(th, .inr (4, [.int tthr, .int tdd, .int tn, .ref tqA, .ref tqB, .ref tqC, .long ta, .long tb, .long tc, .long tp, .long tq, .long tr, .long ts, .int tsome, .ref tqL, .int tlet, .ref tqW, .ref tqO])), (tqA, .inl (cyJ, 40, .inr (.inl tla))), (tqB, .inl (cyJ, 40, .inr (.inl tlb))), (tqC, .inl (cyJ, 40, .inr (.inl tlc))), (tqL, .inl (cyJ, 7, .inr (.inl tlast))), (tqW, .inl (cyC, 40, .inl twd)), (tqO, .inl (cyI, 5, .inl topn))] H := hP
  have hD : va_D A [(th, .inr (4, [.int tthr, .int tdd, .int tn, .ref tqA, .ref tqB, .ref tqC, .long ta, .long tb, .long tc, .long tp, .long tq, .long tr, .long ts, .int tsome, .ref tqL, .int tlet, .ref tqW, .ref tqO])), (tqA, .inl (cyJ, 40, .inr (.inl tla))), (tqB, .inl (cyJ, 40, .inr (.inl tlb))), (tqC, .inl (cyJ, 40, .inr (.inl tlc))), (tqL, .inl (cyJ, 7, .inr (.inl tlast))), (tqW, .inl (cyC, 40, .inl twd)), (tqO, .inl (cyI, 5, .inl topn))] := hD
  refine lv_if_ne (tgt := 14) hx hb dX4_prime_5 (by decide) (fun hc3 => ?_) (fun hc3 => ?_)
  · have h := dm_f hc3 h
    refine lv_iload_n hx hb dX4_prime_14 rfl (lv_at hl 2 rfl) ?_
    refine lv_iconst (v := 1) hx hb dX4_prime_15 (by decide) ?_
    refine lv_sipush (v := 500) hx hb dX4_prime_16 (by decide) ?_
    obtain ⟨r4, hk5, h⟩ := dm_b1s h
    refine mc_i (wr := [(th, .inr (4, [.int tthr, .int tdd, .int tn, .ref tqA, .ref tqB, .ref tqC, .long ta, .long tb, .long tc, .long tp, .long tq, .long tr, .long ts, .int tsome, .ref tqL, .int tlet, .ref tqW, .ref tqO])), (tqA, .inl (cyJ, 40, .inr (.inl tla))), (tqB, .inl (cyJ, 40, .inr (.inl tlb))), (tqC, .inl (cyJ, 40, .inr (.inl tlc))), (tqL, .inl (cyJ, 7, .inr (.inl tlast))), (tqW, .inl (cyC, 40, .inl twd)), (tqO, .inl (cyI, 5, .inl topn))]) (va_runS (As := [.int p1, .int (1 : Int32), .int (500 : Int32)]) (rest := []) ⟨hx, hb, hml, hown, hts⟩ (c_X4_outside l dC dI cyI cyJ cyC H.size p1 (1 : Int32) (500 : Int32) r4 hk5) (va_cwS 3 hts gX4_prime_X4_outside rfl rfl rfl (by decide +kernel) ⟨(Nat.le_of_ble_eq_true rfl), (Nat.le_of_ble_eq_true rfl)⟩) (mc_preS hK (hP.sub (ws' := []) [] rfl) (hD.sub (ws' := []) [] (by decide) rfl) hnw) rfl rfl hl.1 rfl (lv_room (Nat.le_of_ble_eq_true rfl)) dX4_prime_19 ⟨Nat.zero_le _, Nat.zero_le _⟩) hP hD hS hA [] [0, 1, 2, 3, 4, 5, 6] rfl rfl rfl (by decide) (fun H locs hP hD hS => ?_)
    have hP : va_P (dC, dI) vwCl [(th, .inr (4, [.int tthr, .int tdd, .int tn, .ref tqA, .ref tqB, .ref tqC, .long ta, .long tb, .long tc, .long tp, .long tq, .long tr, .long ts, .int tsome, .ref tqL, .int tlet, .ref tqW, .ref tqO])), (tqA, .inl (cyJ, 40, .inr (.inl tla))), (tqB, .inl (cyJ, 40, .inr (.inl tlb))), (tqC, .inl (cyJ, 40, .inr (.inl tlc))), (tqL, .inl (cyJ, 7, .inr (.inl tlast))), (tqW, .inl (cyC, 40, .inl twd)), (tqO, .inl (cyI, 5, .inl topn))] H := hP
    have hD : va_D A [(th, .inr (4, [.int tthr, .int tdd, .int tn, .ref tqA, .ref tqB, .ref tqC, .long ta, .long tb, .long tc, .long tp, .long tq, .long tr, .long ts, .int tsome, .ref tqL, .int tlet, .ref tqW, .ref tqO])), (tqA, .inl (cyJ, 40, .inr (.inl tla))), (tqB, .inl (cyJ, 40, .inr (.inl tlb))), (tqC, .inl (cyJ, 40, .inr (.inl tlc))), (tqL, .inl (cyJ, 7, .inr (.inl tlast))), (tqW, .inl (cyC, 40, .inl twd)), (tqO, .inl (cyI, 5, .inl topn))] := hD
    refine lv_if_eq (tgt := 31) hx hb dX4_prime_22 (by decide) (fun hc6 => ?_) (fun hc6 => ?_)
    · have h := dm_t hc6 h
      refine lv_aload_n hx hb dX4_prime_31 rfl (lv_at hl 0 rfl) ?_
      refine lv_iconst (v := 0) hx hb dX4_prime_32 (by decide) ?_
      refine va_put (D := (dC, dI)) (ci := 4) (v := .int (0 : Int32)) (ty := .int) (C := RX4) (T := TX4) (N := 18) hx hb hts hinX4 tyX4 tyX4_ok nmX4 hown hK hP hD hS 0 rfl rfl 0 (by decide) (hts (.fieldLink RX4 38 "FormDeskModel" "thrown" "I") (by decide +kernel)) (fun _ h9 => h9) rfl (by decide +kernel) rfl rfl (Nat.le_of_ble_eq_true rfl) dX4_prime_33 (fun H locs hP hD hS => ?_)
      have hP : va_P (dC, dI) vwCl [(th, .inr (4, [.int (0 : Int32), .int tdd, .int tn, .ref tqA, .ref tqB, .ref tqC, .long ta, .long tb, .long tc, .long tp, .long tq, .long tr, .long ts, .int tsome, .ref tqL, .int tlet, .ref tqW, .ref tqO])), (tqA, .inl (cyJ, 40, .inr (.inl tla))), (tqB, .inl (cyJ, 40, .inr (.inl tlb))), (tqC, .inl (cyJ, 40, .inr (.inl tlc))), (tqL, .inl (cyJ, 7, .inr (.inl tlast))), (tqW, .inl (cyC, 40, .inl twd)), (tqO, .inl (cyI, 5, .inl topn))] H := hP
      have hD : va_D A [(th, .inr (4, [.int (0 : Int32), .int tdd, .int tn, .ref tqA, .ref tqB, .ref tqC, .long ta, .long tb, .long tc, .long tp, .long tq, .long tr, .long ts, .int tsome, .ref tqL, .int tlet, .ref tqW, .ref tqO])), (tqA, .inl (cyJ, 40, .inr (.inl tla))), (tqB, .inl (cyJ, 40, .inr (.inl tlb))), (tqC, .inl (cyJ, 40, .inr (.inl tlc))), (tqL, .inl (cyJ, 7, .inr (.inl tlast))), (tqW, .inl (cyC, 40, .inl twd)), (tqO, .inl (cyI, 5, .inl topn))] := hD
      refine lv_aload_n hx hb dX4_prime_36 rfl (lv_at hl 0 rfl) ?_
      refine lv_iload_n hx hb dX4_prime_37 rfl (lv_at hl 1 rfl) ?_
      refine lv_iload_n hx hb dX4_prime_38 rfl (lv_at hl 2 rfl) ?_
      refine lv_i2l (v := (p1).toInt64) hx hb dX4_prime_39 rfl ?_
      obtain ⟨w7, w8, w9, w10, w11, w12, w13, hk14, h⟩ := dm_b7s h
      refine mc_v (wr := []) (va_runV (As := [.int p0, .long (p1).toInt64]) (rest := []) ⟨hx, hb, hml, hown, hts⟩ (c_X4_away l dC dI cyI cyJ cyC th tqA tqB tqC tqL tqW tqO H.size (0 : Int32) tdd tn tla tlb tlc ta tb tc tp tq tr ts tsome tlast tlet twd topn p0 (p1).toInt64 w7 w8 w9 w10 w11 w12 w13 hk14) (cwV 2 hts gX4_prime_X4_away rfl rfl rfl (by decide +kernel) ⟨(Nat.le_of_ble_eq_true rfl), (Nat.le_of_ble_eq_true rfl)⟩) (mc_preV hK (hP.sub (ws' := [(th, .inr (4, [.int (0 : Int32), .int tdd, .int tn, .ref tqA, .ref tqB, .ref tqC, .long ta, .long tb, .long tc, .long tp, .long tq, .long tr, .long ts, .int tsome, .ref tqL, .int tlet, .ref tqW, .ref tqO])), (tqA, .inl (cyJ, 40, .inr (.inl tla))), (tqB, .inl (cyJ, 40, .inr (.inl tlb))), (tqC, .inl (cyJ, 40, .inr (.inl tlc))), (tqL, .inl (cyJ, 7, .inr (.inl tlast))), (tqW, .inl (cyC, 40, .inl twd)), (tqO, .inl (cyI, 5, .inl topn))]) [0, 1, 2, 3, 4, 5, 6] rfl) (hD.sub (ws' := [(th, .inr (4, [.int (0 : Int32), .int tdd, .int tn, .ref tqA, .ref tqB, .ref tqC, .long ta, .long tb, .long tc, .long tp, .long tq, .long tr, .long ts, .int tsome, .ref tqL, .int tlet, .ref tqW, .ref tqO])), (tqA, .inl (cyJ, 40, .inr (.inl tla))), (tqB, .inl (cyJ, 40, .inr (.inl tlb))), (tqC, .inl (cyJ, 40, .inr (.inl tlc))), (tqL, .inl (cyJ, 7, .inr (.inl tlast))), (tqW, .inl (cyC, 40, .inl twd)), (tqO, .inl (cyI, 5, .inl topn))]) [0, 1, 2, 3, 4, 5, 6] (by decide) rfl) hnw rfl rfl) rfl rfl hl.1 rfl (lv_room (Nat.le_of_ble_eq_true rfl)) dX4_prime_40 ⟨Nat.zero_le _, Nat.zero_le _⟩) hP hD hS hA [0, 1, 2, 3, 4, 5, 6] [] rfl rfl rfl (by decide) (fun H locs hP hD hS => ?_)
      have hP : va_P (dC, dI) vwCl [(th, .inr (4, [.int (0 : Int32), .int tdd, .int tn, .ref tqA, .ref tqB, .ref tqC, .long w7, .long w8, .long w9, .long w10, .long w11, .long w12, .long w13, .int tsome, .ref tqL, .int tlet, .ref tqW, .ref tqO])), (tqA, .inl (cyJ, 40, .inr (.inl tla))), (tqB, .inl (cyJ, 40, .inr (.inl tlb))), (tqC, .inl (cyJ, 40, .inr (.inl tlc))), (tqL, .inl (cyJ, 7, .inr (.inl tlast))), (tqW, .inl (cyC, 40, .inl twd)), (tqO, .inl (cyI, 5, .inl topn))] H := hP
      have hD : va_D A [(th, .inr (4, [.int (0 : Int32), .int tdd, .int tn, .ref tqA, .ref tqB, .ref tqC, .long w7, .long w8, .long w9, .long w10, .long w11, .long w12, .long w13, .int tsome, .ref tqL, .int tlet, .ref tqW, .ref tqO])), (tqA, .inl (cyJ, 40, .inr (.inl tla))), (tqB, .inl (cyJ, 40, .inr (.inl tlb))), (tqC, .inl (cyJ, 40, .inr (.inl tlc))), (tqL, .inl (cyJ, 7, .inr (.inl tlast))), (tqW, .inl (cyC, 40, .inl twd)), (tqO, .inl (cyI, 5, .inl topn))] := hD
      refine lv_aload_n hx hb dX4_prime_43 rfl (lv_at hl 0 rfl) ?_
      refine va_get (D := (dC, dI)) (ci := 4) (v := .long w7) (C := RX4) (T := TX4) (N := 18) hx hb hts hinX4 hown hK hP 0 rfl rfl 6 (by decide) (hts (.fieldLink RX4 70 "FormDeskModel" "a" "J") (by decide +kernel)) (fun _ h9 => h9) rfl dX4_prime_44 ?_
      refine lv_lstore_n (lv' := [(3, .long w7), (0, .ref th), (1, .int p0), (2, .int p1)]) hx hb dX4_prime_47 rfl hl (by decide) rfl (fun ls hl => ?_)
      refine lv_aload_n hx hb dX4_prime_48 rfl (lv_at hl 1 rfl) ?_
      refine lv_aload_n hx hb dX4_prime_49 rfl (lv_at hl 1 rfl) ?_
      refine va_get (D := (dC, dI)) (ci := 4) (v := .ref tqC) (C := RX4) (T := TX4) (N := 18) hx hb hts hinX4 hown hK hP 0 rfl rfl 5 (by decide) (hts (.fieldLink RX4 20 "FormDeskModel" "listC" "[J") (by decide +kernel)) (fun _ h9 => h9) rfl dX4_prime_50 ?_
      refine lv_iload_n hx hb dX4_prime_53 rfl (lv_at hl 2 rfl) ?_
      obtain ⟨hn15, h⟩ := dm_gs h
      refine va_lald hx hb hK hP 3 1 rfl rfl hn15 dX4_prime_54 ?_
      refine lv_lload_n hx hb dX4_prime_55 rfl (lv_at hl 0 rfl) ?_
      obtain ⟨r16, hk17, h⟩ := dm_b1s h
      refine mc_l (wr := []) (va_runV (As := [.long (tlc (p0).toNatClampNeg), .long w7]) (rest := []) ⟨hx, hb, hml, hown, hts⟩ (c_X4_reach l dC dI cyI cyJ cyC th tqA tqB tqC tqL tqW tqO H.size (0 : Int32) tdd tn tla tlb tlc w7 w8 w9 w10 w11 w12 w13 tsome tlast tlet twd topn (tlc (p0).toNatClampNeg) w7 r16 hk17) (cwV 2 hts gX4_prime_X4_reach rfl rfl rfl (by decide +kernel) ⟨(Nat.le_of_ble_eq_true rfl), (Nat.le_of_ble_eq_true rfl)⟩) (mc_preV hK (hP.sub (ws' := [(th, .inr (4, [.int (0 : Int32), .int tdd, .int tn, .ref tqA, .ref tqB, .ref tqC, .long w7, .long w8, .long w9, .long w10, .long w11, .long w12, .long w13, .int tsome, .ref tqL, .int tlet, .ref tqW, .ref tqO])), (tqA, .inl (cyJ, 40, .inr (.inl tla))), (tqB, .inl (cyJ, 40, .inr (.inl tlb))), (tqC, .inl (cyJ, 40, .inr (.inl tlc))), (tqL, .inl (cyJ, 7, .inr (.inl tlast))), (tqW, .inl (cyC, 40, .inl twd)), (tqO, .inl (cyI, 5, .inl topn))]) [0, 1, 2, 3, 4, 5, 6] rfl) (hD.sub (ws' := [(th, .inr (4, [.int (0 : Int32), .int tdd, .int tn, .ref tqA, .ref tqB, .ref tqC, .long w7, .long w8, .long w9, .long w10, .long w11, .long w12, .long w13, .int tsome, .ref tqL, .int tlet, .ref tqW, .ref tqO])), (tqA, .inl (cyJ, 40, .inr (.inl tla))), (tqB, .inl (cyJ, 40, .inr (.inl tlb))), (tqC, .inl (cyJ, 40, .inr (.inl tlc))), (tqL, .inl (cyJ, 7, .inr (.inl tlast))), (tqW, .inl (cyC, 40, .inl twd)), (tqO, .inl (cyI, 5, .inl topn))]) [0, 1, 2, 3, 4, 5, 6] (by decide) rfl) hnw rfl rfl) rfl rfl hl.1 rfl (lv_room (Nat.le_of_ble_eq_true rfl)) dX4_prime_56 ⟨Nat.zero_le _, Nat.zero_le _⟩) hP hD hS hA [0, 1, 2, 3, 4, 5, 6] [] rfl rfl rfl (by decide) (fun H locs hP hD hS => ?_)
      have hP : va_P (dC, dI) vwCl [(th, .inr (4, [.int (0 : Int32), .int tdd, .int tn, .ref tqA, .ref tqB, .ref tqC, .long w7, .long w8, .long w9, .long w10, .long w11, .long w12, .long w13, .int tsome, .ref tqL, .int tlet, .ref tqW, .ref tqO])), (tqA, .inl (cyJ, 40, .inr (.inl tla))), (tqB, .inl (cyJ, 40, .inr (.inl tlb))), (tqC, .inl (cyJ, 40, .inr (.inl tlc))), (tqL, .inl (cyJ, 7, .inr (.inl tlast))), (tqW, .inl (cyC, 40, .inl twd)), (tqO, .inl (cyI, 5, .inl topn))] H := hP
      have hD : va_D A [(th, .inr (4, [.int (0 : Int32), .int tdd, .int tn, .ref tqA, .ref tqB, .ref tqC, .long w7, .long w8, .long w9, .long w10, .long w11, .long w12, .long w13, .int tsome, .ref tqL, .int tlet, .ref tqW, .ref tqO])), (tqA, .inl (cyJ, 40, .inr (.inl tla))), (tqB, .inl (cyJ, 40, .inr (.inl tlb))), (tqC, .inl (cyJ, 40, .inr (.inl tlc))), (tqL, .inl (cyJ, 7, .inr (.inl tlast))), (tqW, .inl (cyC, 40, .inl twd)), (tqO, .inl (cyI, 5, .inl topn))] := hD
      refine lv_lstore (lv' := [(5, .long r16), (3, .long w7), (0, .ref th), (1, .int p0), (2, .int p1)]) hx hb dX4_prime_59 hl (by decide) rfl (fun ls hl => ?_)
      refine lv_aload_n hx hb dX4_prime_61 rfl (lv_at hl 2 rfl) ?_
      refine lv_aload_n hx hb dX4_prime_62 rfl (lv_at hl 2 rfl) ?_
      refine va_get (D := (dC, dI)) (ci := 4) (v := .ref tqA) (C := RX4) (T := TX4) (N := 18) hx hb hts hinX4 hown hK hP 0 rfl rfl 3 (by decide) (hts (.fieldLink RX4 13 "FormDeskModel" "listA" "[J") (by decide +kernel)) (fun _ h9 => h9) rfl dX4_prime_63 ?_
      refine lv_iload_n hx hb dX4_prime_66 rfl (lv_at hl 3 rfl) ?_
      obtain ⟨hn18, h⟩ := dm_gs h
      refine va_lald hx hb hK hP 1 1 rfl rfl hn18 dX4_prime_67 ?_
      refine lv_lload_n hx hb dX4_prime_68 rfl (lv_at hl 1 rfl) ?_
      obtain ⟨r19, hk20, h⟩ := dm_b1s h
      refine mc_l (wr := []) (va_runV (As := [.long (tla (p0).toNatClampNeg), .long w7]) (rest := []) ⟨hx, hb, hml, hown, hts⟩ (c_X4_reach l dC dI cyI cyJ cyC th tqA tqB tqC tqL tqW tqO H.size (0 : Int32) tdd tn tla tlb tlc w7 w8 w9 w10 w11 w12 w13 tsome tlast tlet twd topn (tla (p0).toNatClampNeg) w7 r19 hk20) (cwV 2 hts gX4_prime_X4_reach rfl rfl rfl (by decide +kernel) ⟨(Nat.le_of_ble_eq_true rfl), (Nat.le_of_ble_eq_true rfl)⟩) (mc_preV hK (hP.sub (ws' := [(th, .inr (4, [.int (0 : Int32), .int tdd, .int tn, .ref tqA, .ref tqB, .ref tqC, .long w7, .long w8, .long w9, .long w10, .long w11, .long w12, .long w13, .int tsome, .ref tqL, .int tlet, .ref tqW, .ref tqO])), (tqA, .inl (cyJ, 40, .inr (.inl tla))), (tqB, .inl (cyJ, 40, .inr (.inl tlb))), (tqC, .inl (cyJ, 40, .inr (.inl tlc))), (tqL, .inl (cyJ, 7, .inr (.inl tlast))), (tqW, .inl (cyC, 40, .inl twd)), (tqO, .inl (cyI, 5, .inl topn))]) [0, 1, 2, 3, 4, 5, 6] rfl) (hD.sub (ws' := [(th, .inr (4, [.int (0 : Int32), .int tdd, .int tn, .ref tqA, .ref tqB, .ref tqC, .long w7, .long w8, .long w9, .long w10, .long w11, .long w12, .long w13, .int tsome, .ref tqL, .int tlet, .ref tqW, .ref tqO])), (tqA, .inl (cyJ, 40, .inr (.inl tla))), (tqB, .inl (cyJ, 40, .inr (.inl tlb))), (tqC, .inl (cyJ, 40, .inr (.inl tlc))), (tqL, .inl (cyJ, 7, .inr (.inl tlast))), (tqW, .inl (cyC, 40, .inl twd)), (tqO, .inl (cyI, 5, .inl topn))]) [0, 1, 2, 3, 4, 5, 6] (by decide) rfl) hnw rfl rfl) rfl rfl hl.1 rfl (lv_room (Nat.le_of_ble_eq_true rfl)) dX4_prime_69 ⟨Nat.zero_le _, Nat.zero_le _⟩) hP hD hS hA [0, 1, 2, 3, 4, 5, 6] [] rfl rfl rfl (by decide) (fun H locs hP hD hS => ?_)
      have hP : va_P (dC, dI) vwCl [(th, .inr (4, [.int (0 : Int32), .int tdd, .int tn, .ref tqA, .ref tqB, .ref tqC, .long w7, .long w8, .long w9, .long w10, .long w11, .long w12, .long w13, .int tsome, .ref tqL, .int tlet, .ref tqW, .ref tqO])), (tqA, .inl (cyJ, 40, .inr (.inl tla))), (tqB, .inl (cyJ, 40, .inr (.inl tlb))), (tqC, .inl (cyJ, 40, .inr (.inl tlc))), (tqL, .inl (cyJ, 7, .inr (.inl tlast))), (tqW, .inl (cyC, 40, .inl twd)), (tqO, .inl (cyI, 5, .inl topn))] H := hP
      have hD : va_D A [(th, .inr (4, [.int (0 : Int32), .int tdd, .int tn, .ref tqA, .ref tqB, .ref tqC, .long w7, .long w8, .long w9, .long w10, .long w11, .long w12, .long w13, .int tsome, .ref tqL, .int tlet, .ref tqW, .ref tqO])), (tqA, .inl (cyJ, 40, .inr (.inl tla))), (tqB, .inl (cyJ, 40, .inr (.inl tlb))), (tqC, .inl (cyJ, 40, .inr (.inl tlc))), (tqL, .inl (cyJ, 7, .inr (.inl tlast))), (tqW, .inl (cyC, 40, .inl twd)), (tqO, .inl (cyI, 5, .inl topn))] := hD
      refine lv_lstore (lv' := [(7, .long r19), (5, .long r16), (3, .long w7), (0, .ref th), (1, .int p0), (2, .int p1)]) hx hb dX4_prime_72 hl (by decide) rfl (fun ls hl => ?_)
      refine lv_lload hx hb dX4_prime_74 (lv_at hl 1 rfl) ?_
      refine lv_lneg hx hb dX4_prime_76 ?_
      refine lv_topl (fun x21 ex21 => ?_)
      have h := dm_lu ex21 h
      refine lv_lstore (lv' := [(9, .long x21), (7, .long r19), (5, .long r16), (3, .long w7), (0, .ref th), (1, .int p0), (2, .int p1)]) hx hb dX4_prime_77 hl (by decide) rfl (fun ls hl => ?_)
      have L79 : ∀ (n79 : Nat) (v22 : Int64) (v23 : Int64) (H : Heap) (locs : List Loc) (ls : Array Slot), f_X4_prime_L79 tla tlb tlc p0 p1 w7 w8 w9 w10 w11 w12 w13 r16 r19 n79 v22 v23 = some (rv, tthr', ta', tb', tc', tp', tq', tr', ts') → va_P (dC, dI) vwCl [(th, .inr (4, [.int (0 : Int32), .int tdd, .int tn, .ref tqA, .ref tqB, .ref tqC, .long w7, .long w8, .long w9, .long w10, .long w11, .long w12, .long w13, .int tsome, .ref tqL, .int tlet, .ref tqW, .ref tqO])), (tqA, .inl (cyJ, 40, .inr (.inl tla))), (tqB, .inl (cyJ, 40, .inr (.inl tlb))), (tqC, .inl (cyJ, 40, .inr (.inl tlc))), (tqL, .inl (cyJ, 7, .inr (.inl tlast))), (tqW, .inl (cyC, 40, .inl twd)), (tqO, .inl (cyI, 5, .inl topn))] H → va_D A [(th, .inr (4, [.int (0 : Int32), .int tdd, .int tn, .ref tqA, .ref tqB, .ref tqC, .long w7, .long w8, .long w9, .long w10, .long w11, .long w12, .long w13, .int tsome, .ref tqL, .int tlet, .ref tqW, .ref tqO])), (tqA, .inl (cyJ, 40, .inr (.inl tla))), (tqB, .inl (cyJ, 40, .inr (.inl tlb))), (tqC, .inl (cyJ, 40, .inr (.inl tlc))), (tqL, .inl (cyJ, 7, .inr (.inl tlast))), (tqW, .inl (cyC, 40, .inl twd)), (tqO, .inl (cyI, 5, .inl topn))] → va_S A s.heap H locs → lv_has ls 15 [(9, .long v22), (7, .long r19), (5, .long r16), (3, .long v23), (0, .ref th), (1, .int p0), (2, .int p1)] → W p l e (headSpec wsX4_prime { frames := 3, cells := 0, slots := 0, locals := 92 }).room s m ([Value.ref th, Value.int p0, Value.int p1] : List Value).toArray below meth c H locs 0 0 QQ (F0 m 79 ls []) := by
        intro n79
        induction n79 with
        | zero =>
          intro v22 v23 H locs ls h
          exact nomatch (show (none : Option (Int32 × Int32 × Int64 × Int64 × Int64 × Int64 × Int64 × Int64 × Int64)) = some _ from h)
        | succ n79 ih79 =>
          intro v22 v23 H locs ls h hP hD hS hl
          rw [f_X4_prime_L79] at h
          refine lv_lload hx hb dX4_prime_79 (lv_at hl 0 rfl) ?_
          refine lv_lload hx hb dX4_prime_81 (lv_at hl 2 rfl) ?_
          refine mc_lif_gt (tgt := 168) hx hb dX4_prime_83 dX4_prime_84 (by decide) (fun hc24 => ?_) (fun hc24 => ?_)
          · have h := dm_t hc24 h
            refine lv_lload_n hx hb dX4_prime_168 rfl (lv_at hl 3 rfl) ?_
            refine lv_l2i (v := (v23).toInt32) hx hb dX4_prime_169 rfl ?_
            obtain ⟨hE0, hE1, hE2, hE3, hE4, hE5, hE6, hE7, hE8⟩ := dm_i9 h
            subst hE0; subst hE1; subst hE2; subst hE3; subst hE4; subst hE5; subst hE6; subst hE7; subst hE8
            rw [hQQ]
            have hP9 := hP.sub (ws' := [(th, .inr (4, [.int (0 : Int32), .int tdd, .int tn, .ref tqA, .ref tqB, .ref tqC, .long w7, .long w8, .long w9, .long w10, .long w11, .long w12, .long w13, .int tsome, .ref tqL, .int tlet, .ref tqW, .ref tqO])), (tqA, .inl (cyJ, 40, .inr (.inl tla))), (tqB, .inl (cyJ, 40, .inr (.inl tlb))), (tqC, .inl (cyJ, 40, .inr (.inl tlc))), (tqL, .inl (cyJ, 7, .inr (.inl tlast))), (tqW, .inl (cyC, 40, .inl twd)), (tqO, .inl (cyI, 5, .inl topn))]) [0, 1, 2, 3, 4, 5, 6] rfl
            have hD9 := hD.sub (ws' := [(th, .inr (4, [.int (0 : Int32), .int tdd, .int tn, .ref tqA, .ref tqB, .ref tqC, .long w7, .long w8, .long w9, .long w10, .long w11, .long w12, .long w13, .int tsome, .ref tqL, .int tlet, .ref tqW, .ref tqO])), (tqA, .inl (cyJ, 40, .inr (.inl tla))), (tqB, .inl (cyJ, 40, .inr (.inl tlb))), (tqC, .inl (cyJ, 40, .inr (.inl tlc))), (tqL, .inl (cyJ, 7, .inr (.inl tlast))), (tqW, .inl (cyC, 40, .inl twd)), (tqO, .inl (cyI, 5, .inl topn))]) [0, 1, 2, 3, 4, 5, 6] (by decide) rfl
            exact W.iret (v := (v23).toInt32) hx hb hr (fun t ht hW => ⟨⟨(v23).toInt32, (), rfl, rfl, by rw [ht]; exact hP9, hD9⟩, hS.F ht⟩) hS.2.2 dX4_prime_170
          · have h := dm_f hc24 h
            refine lv_lconst (v := 0) hx hb dX4_prime_87 (by decide) ?_
            refine lv_lstore (lv' := [(11, .long (0 : Int64)), (9, .long v22), (7, .long r19), (5, .long r16), (3, .long v23), (0, .ref th), (1, .int p0), (2, .int p1)]) hx hb dX4_prime_88 hl (by decide) rfl (fun ls hl => ?_)
            have L90 : ∀ (n90 : Nat) (v25 : Int64) (v26 : Int64) (H : Heap) (locs : List Loc) (ls : Array Slot), f_X4_prime_L90 tla tlb tlc p0 p1 r19 v22 (fun o0 o1 => f_X4_prime_L79 tla tlb tlc p0 p1 w7 w8 w9 w10 w11 w12 w13 r16 r19 n79 o0 o1) n90 v25 v26 = some (rv, tthr', ta', tb', tc', tp', tq', tr', ts') → va_P (dC, dI) vwCl [(th, .inr (4, [.int (0 : Int32), .int tdd, .int tn, .ref tqA, .ref tqB, .ref tqC, .long w7, .long w8, .long w9, .long w10, .long w11, .long w12, .long w13, .int tsome, .ref tqL, .int tlet, .ref tqW, .ref tqO])), (tqA, .inl (cyJ, 40, .inr (.inl tla))), (tqB, .inl (cyJ, 40, .inr (.inl tlb))), (tqC, .inl (cyJ, 40, .inr (.inl tlc))), (tqL, .inl (cyJ, 7, .inr (.inl tlast))), (tqW, .inl (cyC, 40, .inl twd)), (tqO, .inl (cyI, 5, .inl topn))] H → va_D A [(th, .inr (4, [.int (0 : Int32), .int tdd, .int tn, .ref tqA, .ref tqB, .ref tqC, .long w7, .long w8, .long w9, .long w10, .long w11, .long w12, .long w13, .int tsome, .ref tqL, .int tlet, .ref tqW, .ref tqO])), (tqA, .inl (cyJ, 40, .inr (.inl tla))), (tqB, .inl (cyJ, 40, .inr (.inl tlb))), (tqC, .inl (cyJ, 40, .inr (.inl tlc))), (tqL, .inl (cyJ, 7, .inr (.inl tlast))), (tqW, .inl (cyC, 40, .inl twd)), (tqO, .inl (cyI, 5, .inl topn))] → va_S A s.heap H locs → lv_has ls 15 [(11, .long v25), (9, .long v22), (7, .long r19), (5, .long r16), (3, .long v26), (0, .ref th), (1, .int p0), (2, .int p1)] → W p l e (headSpec wsX4_prime { frames := 3, cells := 0, slots := 0, locals := 92 }).room s m ([Value.ref th, Value.int p0, Value.int p1] : List Value).toArray below meth c H locs 0 0 QQ (F0 m 90 ls []) := by
              intro n90
              induction n90 with
              | zero =>
                intro v25 v26 H locs ls h
                exact nomatch (show (none : Option (Int32 × Int32 × Int64 × Int64 × Int64 × Int64 × Int64 × Int64 × Int64)) = some _ from h)
              | succ n90 ih90 =>
                intro v25 v26 H locs ls h hP hD hS hl
                rw [f_X4_prime_L90] at h
                refine lv_lload hx hb dX4_prime_90 (lv_at hl 0 rfl) ?_
                refine lv_lload hx hb dX4_prime_92 (lv_at hl 2 rfl) ?_
                refine mc_lif_gt (tgt := 159) hx hb dX4_prime_94 dX4_prime_95 (by decide) (fun hc27 => ?_) (fun hc27 => ?_)
                · have h := dm_t hc27 h
                  refine lv_lload hx hb dX4_prime_159 (lv_at hl 1 rfl) ?_
                  refine lv_lconst (v := 1) hx hb dX4_prime_161 (by decide) ?_
                  refine lv_ladd hx hb dX4_prime_162 ?_
                  refine lv_topl (fun x28 ex28 => ?_)
                  have h := dm_lu ex28 h
                  refine lv_lstore (lv' := [(9, .long x28), (11, .long v25), (7, .long r19), (5, .long r16), (3, .long v26), (0, .ref th), (1, .int p0), (2, .int p1)]) hx hb dX4_prime_163 hl (by decide) rfl (fun ls hl => ?_)
                  refine lv_goto (tgt := 79) hx hb dX4_prime_165 (by decide) ?_
                  exact ih79 x28 v26 H _ ls h (hP.sub [0, 1, 2, 3, 4, 5, 6] rfl) (hD.sub [0, 1, 2, 3, 4, 5, 6] (by decide) rfl) hS (lv_sub hl [0, 2, 3, 4, 5, 6, 7] rfl)
                · have h := dm_f hc27 h
                  refine lv_aload_n hx hb dX4_prime_98 rfl (lv_at hl 5 rfl) ?_
                  refine lv_iload_n hx hb dX4_prime_99 rfl (lv_at hl 6 rfl) ?_
                  refine lv_lload hx hb dX4_prime_100 (lv_at hl 1 rfl) ?_
                  refine lv_lload hx hb dX4_prime_102 (lv_at hl 0 rfl) ?_
                  obtain ⟨r29, hk30, h⟩ := dm_b1s h
                  refine mc_l (wr := []) (va_runV (As := [.int p0, .long v22, .long v25]) (rest := []) ⟨hx, hb, hml, hown, hts⟩ (c_X4_at l dC dI cyI cyJ cyC th tqA tqB tqC tqL tqW tqO H.size (0 : Int32) tdd tn tla tlb tlc w7 w8 w9 w10 w11 w12 w13 tsome tlast tlet twd topn p0 v22 v25 r29 hk30) (cwV 3 hts gX4_prime_X4_at rfl rfl rfl (by decide +kernel) ⟨(Nat.le_of_ble_eq_true rfl), (Nat.le_of_ble_eq_true rfl)⟩) (mc_preV hK (hP.sub (ws' := [(th, .inr (4, [.int (0 : Int32), .int tdd, .int tn, .ref tqA, .ref tqB, .ref tqC, .long w7, .long w8, .long w9, .long w10, .long w11, .long w12, .long w13, .int tsome, .ref tqL, .int tlet, .ref tqW, .ref tqO])), (tqA, .inl (cyJ, 40, .inr (.inl tla))), (tqB, .inl (cyJ, 40, .inr (.inl tlb))), (tqC, .inl (cyJ, 40, .inr (.inl tlc))), (tqL, .inl (cyJ, 7, .inr (.inl tlast))), (tqW, .inl (cyC, 40, .inl twd)), (tqO, .inl (cyI, 5, .inl topn))]) [0, 1, 2, 3, 4, 5, 6] rfl) (hD.sub (ws' := [(th, .inr (4, [.int (0 : Int32), .int tdd, .int tn, .ref tqA, .ref tqB, .ref tqC, .long w7, .long w8, .long w9, .long w10, .long w11, .long w12, .long w13, .int tsome, .ref tqL, .int tlet, .ref tqW, .ref tqO])), (tqA, .inl (cyJ, 40, .inr (.inl tla))), (tqB, .inl (cyJ, 40, .inr (.inl tlb))), (tqC, .inl (cyJ, 40, .inr (.inl tlc))), (tqL, .inl (cyJ, 7, .inr (.inl tlast))), (tqW, .inl (cyC, 40, .inl twd)), (tqO, .inl (cyI, 5, .inl topn))]) [0, 1, 2, 3, 4, 5, 6] (by decide) rfl) hnw rfl rfl) rfl rfl hl.1 rfl (lv_room (Nat.le_of_ble_eq_true rfl)) dX4_prime_104 ⟨Nat.zero_le _, Nat.zero_le _⟩) hP hD hS hA [0, 1, 2, 3, 4, 5, 6] [] rfl rfl rfl (by decide) (fun H locs hP hD hS => ?_)
                  have hP : va_P (dC, dI) vwCl [(th, .inr (4, [.int (0 : Int32), .int tdd, .int tn, .ref tqA, .ref tqB, .ref tqC, .long w7, .long w8, .long w9, .long w10, .long w11, .long w12, .long w13, .int tsome, .ref tqL, .int tlet, .ref tqW, .ref tqO])), (tqA, .inl (cyJ, 40, .inr (.inl tla))), (tqB, .inl (cyJ, 40, .inr (.inl tlb))), (tqC, .inl (cyJ, 40, .inr (.inl tlc))), (tqL, .inl (cyJ, 7, .inr (.inl tlast))), (tqW, .inl (cyC, 40, .inl twd)), (tqO, .inl (cyI, 5, .inl topn))] H := hP
                  have hD : va_D A [(th, .inr (4, [.int (0 : Int32), .int tdd, .int tn, .ref tqA, .ref tqB, .ref tqC, .long w7, .long w8, .long w9, .long w10, .long w11, .long w12, .long w13, .int tsome, .ref tqL, .int tlet, .ref tqW, .ref tqO])), (tqA, .inl (cyJ, 40, .inr (.inl tla))), (tqB, .inl (cyJ, 40, .inr (.inl tlb))), (tqC, .inl (cyJ, 40, .inr (.inl tlc))), (tqL, .inl (cyJ, 7, .inr (.inl tlast))), (tqW, .inl (cyC, 40, .inl twd)), (tqO, .inl (cyI, 5, .inl topn))] := hD
                  refine lv_lstore (lv' := [(13, .long r29), (11, .long v25), (9, .long v22), (7, .long r19), (5, .long r16), (3, .long v26), (0, .ref th), (1, .int p0), (2, .int p1)]) hx hb dX4_prime_107 hl (by decide) rfl (fun ls hl => ?_)
                  refine lv_lload hx hb dX4_prime_109 (lv_at hl 0 rfl) ?_
                  refine lv_lconst (v := 0) hx hb dX4_prime_111 (by decide) ?_
                  refine mc_lif_le (tgt := 150) hx hb dX4_prime_112 dX4_prime_113 (by decide) (fun hc31 => ?_) (fun hc31 => ?_)
                  · have h := dm_t hc31 h
                    refine lv_lload hx hb dX4_prime_150 (lv_at hl 1 rfl) ?_
                    refine lv_lconst (v := 1) hx hb dX4_prime_152 (by decide) ?_
                    refine lv_ladd hx hb dX4_prime_153 ?_
                    refine lv_topl (fun x32 ex32 => ?_)
                    have h := dm_lu ex32 h
                    refine lv_lstore (lv' := [(11, .long x32), (13, .long r29), (9, .long v22), (7, .long r19), (5, .long r16), (3, .long v26), (0, .ref th), (1, .int p0), (2, .int p1)]) hx hb dX4_prime_154 hl (by decide) rfl (fun ls hl => ?_)
                    refine lv_goto (tgt := 90) hx hb dX4_prime_156 (by decide) ?_
                    exact ih90 x32 v26 H _ ls h (hP.sub [0, 1, 2, 3, 4, 5, 6] rfl) (hD.sub [0, 1, 2, 3, 4, 5, 6] (by decide) rfl) hS (lv_sub hl [0, 2, 3, 4, 5, 6, 7, 8] rfl)
                  · have h := dm_f hc31 h
                    refine lv_lload hx hb dX4_prime_116 (lv_at hl 0 rfl) ?_
                    refine lv_lload_n hx hb dX4_prime_118 rfl (lv_at hl 5 rfl) ?_
                    refine mc_lif_ge (tgt := 150) hx hb dX4_prime_119 dX4_prime_120 (by decide) (fun hc33 => ?_) (fun hc33 => ?_)
                    · have h := dm_t hc33 h
                      refine lv_lload hx hb dX4_prime_150 (lv_at hl 1 rfl) ?_
                      refine lv_lconst (v := 1) hx hb dX4_prime_152 (by decide) ?_
                      refine lv_ladd hx hb dX4_prime_153 ?_
                      refine lv_topl (fun x34 ex34 => ?_)
                      have h := dm_lu ex34 h
                      refine lv_lstore (lv' := [(11, .long x34), (13, .long r29), (9, .long v22), (7, .long r19), (5, .long r16), (3, .long v26), (0, .ref th), (1, .int p0), (2, .int p1)]) hx hb dX4_prime_154 hl (by decide) rfl (fun ls hl => ?_)
                      refine lv_goto (tgt := 90) hx hb dX4_prime_156 (by decide) ?_
                      exact ih90 x34 v26 H _ ls h (hP.sub [0, 1, 2, 3, 4, 5, 6] rfl) (hD.sub [0, 1, 2, 3, 4, 5, 6] (by decide) rfl) hS (lv_sub hl [0, 2, 3, 4, 5, 6, 7, 8] rfl)
                    · have h := dm_f hc33 h
                      refine lv_lload hx hb dX4_prime_123 (lv_at hl 2 rfl) ?_
                      refine lv_lload hx hb dX4_prime_125 (lv_at hl 1 rfl) ?_
                      obtain ⟨r35, hk36, h⟩ := dm_b1s h
                      refine mc_l (wr := [(th, .inr (4, [.int (0 : Int32), .int tdd, .int tn, .ref tqA, .ref tqB, .ref tqC, .long w7, .long w8, .long w9, .long w10, .long w11, .long w12, .long w13, .int tsome, .ref tqL, .int tlet, .ref tqW, .ref tqO])), (tqA, .inl (cyJ, 40, .inr (.inl tla))), (tqB, .inl (cyJ, 40, .inr (.inl tlb))), (tqC, .inl (cyJ, 40, .inr (.inl tlc))), (tqL, .inl (cyJ, 7, .inr (.inl tlast))), (tqW, .inl (cyC, 40, .inl twd)), (tqO, .inl (cyI, 5, .inl topn))]) (va_runS (As := [.long v22, .long v25]) (rest := []) ⟨hx, hb, hml, hown, hts⟩ (c_X4_common l dC dI cyI cyJ cyC H.size v22 v25 r35 hk36) (va_cwS 2 hts gX4_prime_X4_common rfl rfl rfl (by decide +kernel) ⟨(Nat.le_of_ble_eq_true rfl), (Nat.le_of_ble_eq_true rfl)⟩) (mc_preS hK (hP.sub (ws' := []) [] rfl) (hD.sub (ws' := []) [] (by decide) rfl) hnw) rfl rfl hl.1 rfl (lv_room (Nat.le_of_ble_eq_true rfl)) dX4_prime_127 ⟨Nat.zero_le _, Nat.zero_le _⟩) hP hD hS hA [] [0, 1, 2, 3, 4, 5, 6] rfl rfl rfl (by decide) (fun H locs hP hD hS => ?_)
                      have hP : va_P (dC, dI) vwCl [(th, .inr (4, [.int (0 : Int32), .int tdd, .int tn, .ref tqA, .ref tqB, .ref tqC, .long w7, .long w8, .long w9, .long w10, .long w11, .long w12, .long w13, .int tsome, .ref tqL, .int tlet, .ref tqW, .ref tqO])), (tqA, .inl (cyJ, 40, .inr (.inl tla))), (tqB, .inl (cyJ, 40, .inr (.inl tlb))), (tqC, .inl (cyJ, 40, .inr (.inl tlc))), (tqL, .inl (cyJ, 7, .inr (.inl tlast))), (tqW, .inl (cyC, 40, .inl twd)), (tqO, .inl (cyI, 5, .inl topn))] H := hP
                      have hD : va_D A [(th, .inr (4, [.int (0 : Int32), .int tdd, .int tn, .ref tqA, .ref tqB, .ref tqC, .long w7, .long w8, .long w9, .long w10, .long w11, .long w12, .long w13, .int tsome, .ref tqL, .int tlet, .ref tqW, .ref tqO])), (tqA, .inl (cyJ, 40, .inr (.inl tla))), (tqB, .inl (cyJ, 40, .inr (.inl tlb))), (tqC, .inl (cyJ, 40, .inr (.inl tlc))), (tqL, .inl (cyJ, 7, .inr (.inl tlast))), (tqW, .inl (cyC, 40, .inl twd)), (tqO, .inl (cyI, 5, .inl topn))] := hD
                      refine lv_lconst (v := 1) hx hb dX4_prime_130 (by decide) ?_
                      refine mc_lif_ne (tgt := 150) hx hb dX4_prime_131 dX4_prime_132 (by decide) (fun hc37 => ?_) (fun hc37 => ?_)
                      · have h := dm_f hc37 h
                        refine lv_lload hx hb dX4_prime_150 (lv_at hl 1 rfl) ?_
                        refine lv_lconst (v := 1) hx hb dX4_prime_152 (by decide) ?_
                        refine lv_ladd hx hb dX4_prime_153 ?_
                        refine lv_topl (fun x38 ex38 => ?_)
                        have h := dm_lu ex38 h
                        refine lv_lstore (lv' := [(11, .long x38), (13, .long r29), (9, .long v22), (7, .long r19), (5, .long r16), (3, .long v26), (0, .ref th), (1, .int p0), (2, .int p1)]) hx hb dX4_prime_154 hl (by decide) rfl (fun ls hl => ?_)
                        refine lv_goto (tgt := 90) hx hb dX4_prime_156 (by decide) ?_
                        exact ih90 x38 v26 H _ ls h (hP.sub [0, 1, 2, 3, 4, 5, 6] rfl) (hD.sub [0, 1, 2, 3, 4, 5, 6] (by decide) rfl) hS (lv_sub hl [0, 2, 3, 4, 5, 6, 7, 8] rfl)
                      · have h := dm_t hc37 h
                        refine lv_lload hx hb dX4_prime_135 (lv_at hl 0 rfl) ?_
                        refine lv_iload_n hx hb dX4_prime_137 rfl (lv_at hl 8 rfl) ?_
                        refine lv_i2l (v := (p1).toInt64) hx hb dX4_prime_138 rfl ?_
                        obtain ⟨r39, hk40, h⟩ := dm_b1s h
                        refine mc_l (wr := [(th, .inr (4, [.int (0 : Int32), .int tdd, .int tn, .ref tqA, .ref tqB, .ref tqC, .long w7, .long w8, .long w9, .long w10, .long w11, .long w12, .long w13, .int tsome, .ref tqL, .int tlet, .ref tqW, .ref tqO])), (tqA, .inl (cyJ, 40, .inr (.inl tla))), (tqB, .inl (cyJ, 40, .inr (.inl tlb))), (tqC, .inl (cyJ, 40, .inr (.inl tlc))), (tqL, .inl (cyJ, 7, .inr (.inl tlast))), (tqW, .inl (cyC, 40, .inl twd)), (tqO, .inl (cyI, 5, .inl topn))]) (va_runS (As := [.long r29, .long (p1).toInt64]) (rest := []) ⟨hx, hb, hml, hown, hts⟩ (c_X4_common l dC dI cyI cyJ cyC H.size r29 (p1).toInt64 r39 hk40) (va_cwS 2 hts gX4_prime_X4_common rfl rfl rfl (by decide +kernel) ⟨(Nat.le_of_ble_eq_true rfl), (Nat.le_of_ble_eq_true rfl)⟩) (mc_preS hK (hP.sub (ws' := []) [] rfl) (hD.sub (ws' := []) [] (by decide) rfl) hnw) rfl rfl hl.1 rfl (lv_room (Nat.le_of_ble_eq_true rfl)) dX4_prime_139 ⟨Nat.zero_le _, Nat.zero_le _⟩) hP hD hS hA [] [0, 1, 2, 3, 4, 5, 6] rfl rfl rfl (by decide) (fun H locs hP hD hS => ?_)
                        have hP : va_P (dC, dI) vwCl [(th, .inr (4, [.int (0 : Int32), .int tdd, .int tn, .ref tqA, .ref tqB, .ref tqC, .long w7, .long w8, .long w9, .long w10, .long w11, .long w12, .long w13, .int tsome, .ref tqL, .int tlet, .ref tqW, .ref tqO])), (tqA, .inl (cyJ, 40, .inr (.inl tla))), (tqB, .inl (cyJ, 40, .inr (.inl tlb))), (tqC, .inl (cyJ, 40, .inr (.inl tlc))), (tqL, .inl (cyJ, 7, .inr (.inl tlast))), (tqW, .inl (cyC, 40, .inl twd)), (tqO, .inl (cyI, 5, .inl topn))] H := hP
                        have hD : va_D A [(th, .inr (4, [.int (0 : Int32), .int tdd, .int tn, .ref tqA, .ref tqB, .ref tqC, .long w7, .long w8, .long w9, .long w10, .long w11, .long w12, .long w13, .int tsome, .ref tqL, .int tlet, .ref tqW, .ref tqO])), (tqA, .inl (cyJ, 40, .inr (.inl tla))), (tqB, .inl (cyJ, 40, .inr (.inl tlb))), (tqC, .inl (cyJ, 40, .inr (.inl tlc))), (tqL, .inl (cyJ, 7, .inr (.inl tlast))), (tqW, .inl (cyC, 40, .inl twd)), (tqO, .inl (cyI, 5, .inl topn))] := hD
                        refine lv_lconst (v := 1) hx hb dX4_prime_142 (by decide) ?_
                        refine mc_lif_ne (tgt := 150) hx hb dX4_prime_143 dX4_prime_144 (by decide) (fun hc41 => ?_) (fun hc41 => ?_)
                        · have h := dm_f hc41 h
                          refine lv_lload hx hb dX4_prime_150 (lv_at hl 1 rfl) ?_
                          refine lv_lconst (v := 1) hx hb dX4_prime_152 (by decide) ?_
                          refine lv_ladd hx hb dX4_prime_153 ?_
                          refine lv_topl (fun x42 ex42 => ?_)
                          have h := dm_lu ex42 h
                          refine lv_lstore (lv' := [(11, .long x42), (13, .long r29), (9, .long v22), (7, .long r19), (5, .long r16), (3, .long v26), (0, .ref th), (1, .int p0), (2, .int p1)]) hx hb dX4_prime_154 hl (by decide) rfl (fun ls hl => ?_)
                          refine lv_goto (tgt := 90) hx hb dX4_prime_156 (by decide) ?_
                          exact ih90 x42 v26 H _ ls h (hP.sub [0, 1, 2, 3, 4, 5, 6] rfl) (hD.sub [0, 1, 2, 3, 4, 5, 6] (by decide) rfl) hS (lv_sub hl [0, 2, 3, 4, 5, 6, 7, 8] rfl)
                        · have h := dm_t hc41 h
                          refine lv_lload hx hb dX4_prime_147 (lv_at hl 0 rfl) ?_
                          refine lv_lstore_n (lv' := [(3, .long r29), (13, .long r29), (11, .long v25), (9, .long v22), (7, .long r19), (5, .long r16), (0, .ref th), (1, .int p0), (2, .int p1)]) hx hb dX4_prime_149 rfl hl (by decide) rfl (fun ls hl => ?_)
                          refine lv_lload hx hb dX4_prime_150 (lv_at hl 2 rfl) ?_
                          refine lv_lconst (v := 1) hx hb dX4_prime_152 (by decide) ?_
                          refine lv_ladd hx hb dX4_prime_153 ?_
                          refine lv_topl (fun x43 ex43 => ?_)
                          have h := dm_lu ex43 h
                          refine lv_lstore (lv' := [(11, .long x43), (3, .long r29), (13, .long r29), (9, .long v22), (7, .long r19), (5, .long r16), (0, .ref th), (1, .int p0), (2, .int p1)]) hx hb dX4_prime_154 hl (by decide) rfl (fun ls hl => ?_)
                          refine lv_goto (tgt := 90) hx hb dX4_prime_156 (by decide) ?_
                          exact ih90 x43 r29 H _ ls h (hP.sub [0, 1, 2, 3, 4, 5, 6] rfl) (hD.sub [0, 1, 2, 3, 4, 5, 6] (by decide) rfl) hS (lv_sub hl [0, 3, 4, 5, 1, 6, 7, 8] rfl)
            exact L90 100000 (0 : Int64) v23 H _ ls h hP hD hS hl
      exact L79 100000 x21 w7 H _ ls h hP hD hS hl
    · have h := dm_f hc6 h
      refine lv_aload_n hx hb dX4_prime_25 rfl (lv_at hl 0 rfl) ?_
      refine lv_iconst (v := 2) hx hb dX4_prime_26 (by decide) ?_
      obtain ⟨r44, w45, hk46, h⟩ := dm_b2s h
      refine mc_i (wr := []) (va_runV (As := [.int (2 : Int32)]) (rest := []) ⟨hx, hb, hml, hown, hts⟩ (c_X4_refuse l dC dI cyI cyJ cyC th tqA tqB tqC tqL tqW tqO H.size tthr tdd tn tla tlb tlc ta tb tc tp tq tr ts tsome tlast tlet twd topn (2 : Int32) r44 w45 hk46) (cwV 1 hts gX4_prime_X4_refuse rfl rfl rfl (by decide +kernel) ⟨(Nat.le_of_ble_eq_true rfl), (Nat.le_of_ble_eq_true rfl)⟩) (mc_preV hK (hP.sub (ws' := [(th, .inr (4, [.int tthr, .int tdd, .int tn, .ref tqA, .ref tqB, .ref tqC, .long ta, .long tb, .long tc, .long tp, .long tq, .long tr, .long ts, .int tsome, .ref tqL, .int tlet, .ref tqW, .ref tqO])), (tqA, .inl (cyJ, 40, .inr (.inl tla))), (tqB, .inl (cyJ, 40, .inr (.inl tlb))), (tqC, .inl (cyJ, 40, .inr (.inl tlc))), (tqL, .inl (cyJ, 7, .inr (.inl tlast))), (tqW, .inl (cyC, 40, .inl twd)), (tqO, .inl (cyI, 5, .inl topn))]) [0, 1, 2, 3, 4, 5, 6] rfl) (hD.sub (ws' := [(th, .inr (4, [.int tthr, .int tdd, .int tn, .ref tqA, .ref tqB, .ref tqC, .long ta, .long tb, .long tc, .long tp, .long tq, .long tr, .long ts, .int tsome, .ref tqL, .int tlet, .ref tqW, .ref tqO])), (tqA, .inl (cyJ, 40, .inr (.inl tla))), (tqB, .inl (cyJ, 40, .inr (.inl tlb))), (tqC, .inl (cyJ, 40, .inr (.inl tlc))), (tqL, .inl (cyJ, 7, .inr (.inl tlast))), (tqW, .inl (cyC, 40, .inl twd)), (tqO, .inl (cyI, 5, .inl topn))]) [0, 1, 2, 3, 4, 5, 6] (by decide) rfl) hnw rfl rfl) rfl rfl hl.1 rfl (lv_room (Nat.le_of_ble_eq_true rfl)) dX4_prime_27 ⟨Nat.zero_le _, Nat.zero_le _⟩) hP hD hS hA [0, 1, 2, 3, 4, 5, 6] [] rfl rfl rfl (by decide) (fun H locs hP hD hS => ?_)
      have hP : va_P (dC, dI) vwCl [(th, .inr (4, [.int w45, .int tdd, .int tn, .ref tqA, .ref tqB, .ref tqC, .long ta, .long tb, .long tc, .long tp, .long tq, .long tr, .long ts, .int tsome, .ref tqL, .int tlet, .ref tqW, .ref tqO])), (tqA, .inl (cyJ, 40, .inr (.inl tla))), (tqB, .inl (cyJ, 40, .inr (.inl tlb))), (tqC, .inl (cyJ, 40, .inr (.inl tlc))), (tqL, .inl (cyJ, 7, .inr (.inl tlast))), (tqW, .inl (cyC, 40, .inl twd)), (tqO, .inl (cyI, 5, .inl topn))] H := hP
      have hD : va_D A [(th, .inr (4, [.int w45, .int tdd, .int tn, .ref tqA, .ref tqB, .ref tqC, .long ta, .long tb, .long tc, .long tp, .long tq, .long tr, .long ts, .int tsome, .ref tqL, .int tlet, .ref tqW, .ref tqO])), (tqA, .inl (cyJ, 40, .inr (.inl tla))), (tqB, .inl (cyJ, 40, .inr (.inl tlb))), (tqC, .inl (cyJ, 40, .inr (.inl tlc))), (tqL, .inl (cyJ, 7, .inr (.inl tlast))), (tqW, .inl (cyC, 40, .inl twd)), (tqO, .inl (cyI, 5, .inl topn))] := hD
      obtain ⟨hE0, hE1, hE2, hE3, hE4, hE5, hE6, hE7, hE8⟩ := dm_i9 h
      subst hE0; subst hE1; subst hE2; subst hE3; subst hE4; subst hE5; subst hE6; subst hE7; subst hE8
      rw [hQQ]
      have hP9 := hP.sub (ws' := [(th, .inr (4, [.int w45, .int tdd, .int tn, .ref tqA, .ref tqB, .ref tqC, .long ta, .long tb, .long tc, .long tp, .long tq, .long tr, .long ts, .int tsome, .ref tqL, .int tlet, .ref tqW, .ref tqO])), (tqA, .inl (cyJ, 40, .inr (.inl tla))), (tqB, .inl (cyJ, 40, .inr (.inl tlb))), (tqC, .inl (cyJ, 40, .inr (.inl tlc))), (tqL, .inl (cyJ, 7, .inr (.inl tlast))), (tqW, .inl (cyC, 40, .inl twd)), (tqO, .inl (cyI, 5, .inl topn))]) [0, 1, 2, 3, 4, 5, 6] rfl
      have hD9 := hD.sub (ws' := [(th, .inr (4, [.int w45, .int tdd, .int tn, .ref tqA, .ref tqB, .ref tqC, .long ta, .long tb, .long tc, .long tp, .long tq, .long tr, .long ts, .int tsome, .ref tqL, .int tlet, .ref tqW, .ref tqO])), (tqA, .inl (cyJ, 40, .inr (.inl tla))), (tqB, .inl (cyJ, 40, .inr (.inl tlb))), (tqC, .inl (cyJ, 40, .inr (.inl tlc))), (tqL, .inl (cyJ, 7, .inr (.inl tlast))), (tqW, .inl (cyC, 40, .inl twd)), (tqO, .inl (cyI, 5, .inl topn))]) [0, 1, 2, 3, 4, 5, 6] (by decide) rfl
      exact W.iret (v := r44) hx hb hr (fun t ht hW => ⟨⟨r44, (), rfl, rfl, by rw [ht]; exact hP9, hD9⟩, hS.F ht⟩) hS.2.2 dX4_prime_30
  · have h := dm_t hc3 h
    refine lv_aload_n hx hb dX4_prime_8 rfl (lv_at hl 0 rfl) ?_
    refine lv_iconst (v := 1) hx hb dX4_prime_9 (by decide) ?_
    obtain ⟨r47, w48, hk49, h⟩ := dm_b2s h
    refine mc_i (wr := []) (va_runV (As := [.int (1 : Int32)]) (rest := []) ⟨hx, hb, hml, hown, hts⟩ (c_X4_refuse l dC dI cyI cyJ cyC th tqA tqB tqC tqL tqW tqO H.size tthr tdd tn tla tlb tlc ta tb tc tp tq tr ts tsome tlast tlet twd topn (1 : Int32) r47 w48 hk49) (cwV 1 hts gX4_prime_X4_refuse rfl rfl rfl (by decide +kernel) ⟨(Nat.le_of_ble_eq_true rfl), (Nat.le_of_ble_eq_true rfl)⟩) (mc_preV hK (hP.sub (ws' := [(th, .inr (4, [.int tthr, .int tdd, .int tn, .ref tqA, .ref tqB, .ref tqC, .long ta, .long tb, .long tc, .long tp, .long tq, .long tr, .long ts, .int tsome, .ref tqL, .int tlet, .ref tqW, .ref tqO])), (tqA, .inl (cyJ, 40, .inr (.inl tla))), (tqB, .inl (cyJ, 40, .inr (.inl tlb))), (tqC, .inl (cyJ, 40, .inr (.inl tlc))), (tqL, .inl (cyJ, 7, .inr (.inl tlast))), (tqW, .inl (cyC, 40, .inl twd)), (tqO, .inl (cyI, 5, .inl topn))]) [0, 1, 2, 3, 4, 5, 6] rfl) (hD.sub (ws' := [(th, .inr (4, [.int tthr, .int tdd, .int tn, .ref tqA, .ref tqB, .ref tqC, .long ta, .long tb, .long tc, .long tp, .long tq, .long tr, .long ts, .int tsome, .ref tqL, .int tlet, .ref tqW, .ref tqO])), (tqA, .inl (cyJ, 40, .inr (.inl tla))), (tqB, .inl (cyJ, 40, .inr (.inl tlb))), (tqC, .inl (cyJ, 40, .inr (.inl tlc))), (tqL, .inl (cyJ, 7, .inr (.inl tlast))), (tqW, .inl (cyC, 40, .inl twd)), (tqO, .inl (cyI, 5, .inl topn))]) [0, 1, 2, 3, 4, 5, 6] (by decide) rfl) hnw rfl rfl) rfl rfl hl.1 rfl (lv_room (Nat.le_of_ble_eq_true rfl)) dX4_prime_10 ⟨Nat.zero_le _, Nat.zero_le _⟩) hP hD hS hA [0, 1, 2, 3, 4, 5, 6] [] rfl rfl rfl (by decide) (fun H locs hP hD hS => ?_)
    have hP : va_P (dC, dI) vwCl [(th, .inr (4, [.int w48, .int tdd, .int tn, .ref tqA, .ref tqB, .ref tqC, .long ta, .long tb, .long tc, .long tp, .long tq, .long tr, .long ts, .int tsome, .ref tqL, .int tlet, .ref tqW, .ref tqO])), (tqA, .inl (cyJ, 40, .inr (.inl tla))), (tqB, .inl (cyJ, 40, .inr (.inl tlb))), (tqC, .inl (cyJ, 40, .inr (.inl tlc))), (tqL, .inl (cyJ, 7, .inr (.inl tlast))), (tqW, .inl (cyC, 40, .inl twd)), (tqO, .inl (cyI, 5, .inl topn))] H := hP
    have hD : va_D A [(th, .inr (4, [.int w48, .int tdd, .int tn, .ref tqA, .ref tqB, .ref tqC, .long ta, .long tb, .long tc, .long tp, .long tq, .long tr, .long ts, .int tsome, .ref tqL, .int tlet, .ref tqW, .ref tqO])), (tqA, .inl (cyJ, 40, .inr (.inl tla))), (tqB, .inl (cyJ, 40, .inr (.inl tlb))), (tqC, .inl (cyJ, 40, .inr (.inl tlc))), (tqL, .inl (cyJ, 7, .inr (.inl tlast))), (tqW, .inl (cyC, 40, .inl twd)), (tqO, .inl (cyI, 5, .inl topn))] := hD
    obtain ⟨hE0, hE1, hE2, hE3, hE4, hE5, hE6, hE7, hE8⟩ := dm_i9 h
    subst hE0; subst hE1; subst hE2; subst hE3; subst hE4; subst hE5; subst hE6; subst hE7; subst hE8
    rw [hQQ]
    have hP9 := hP.sub (ws' := [(th, .inr (4, [.int w48, .int tdd, .int tn, .ref tqA, .ref tqB, .ref tqC, .long ta, .long tb, .long tc, .long tp, .long tq, .long tr, .long ts, .int tsome, .ref tqL, .int tlet, .ref tqW, .ref tqO])), (tqA, .inl (cyJ, 40, .inr (.inl tla))), (tqB, .inl (cyJ, 40, .inr (.inl tlb))), (tqC, .inl (cyJ, 40, .inr (.inl tlc))), (tqL, .inl (cyJ, 7, .inr (.inl tlast))), (tqW, .inl (cyC, 40, .inl twd)), (tqO, .inl (cyI, 5, .inl topn))]) [0, 1, 2, 3, 4, 5, 6] rfl
    have hD9 := hD.sub (ws' := [(th, .inr (4, [.int w48, .int tdd, .int tn, .ref tqA, .ref tqB, .ref tqC, .long ta, .long tb, .long tc, .long tp, .long tq, .long tr, .long ts, .int tsome, .ref tqL, .int tlet, .ref tqW, .ref tqO])), (tqA, .inl (cyJ, 40, .inr (.inl tla))), (tqB, .inl (cyJ, 40, .inr (.inl tlb))), (tqC, .inl (cyJ, 40, .inr (.inl tlc))), (tqL, .inl (cyJ, 7, .inr (.inl tlast))), (tqW, .inl (cyC, 40, .inl twd)), (tqO, .inl (cyI, 5, .inl topn))]) [0, 1, 2, 3, 4, 5, 6] (by decide) rfl
    exact W.iret (v := r47) hx hb hr (fun t ht hW => ⟨⟨r47, (), rfl, rfl, by rw [ht]; exact hP9, hD9⟩, hS.F ht⟩) hS.2.2 dX4_prime_13

def f_X4_isLetter (p0 : Int32) : Option (Int32) :=
  if p0 < (97 : Int32) then
    if p0 < (65 : Int32) then
      some (0 : Int32)
    else
      if (90 : Int32) < p0 then
        some (0 : Int32)
      else
        some (1 : Int32)
  else
    if p0 ≤ (122 : Int32) then
      some (1 : Int32)
    else
      if p0 < (65 : Int32) then
        some (0 : Int32)
      else
        if (90 : Int32) < p0 then
          some (0 : Int32)
        else
          some (1 : Int32)
set_option maxHeartbeats 4000000 in
set_option maxRecDepth 100000 in
theorem c_X4_isLetter (l : Launch) (dC : Nat → ClassId) (dI : Nat → Nat → Nat) (cyI cyJ cyC : ClassId) (sz : Nat)  (p0 : Int32) (rv : Int32) (hf : f_X4_isLetter p0 = some rv) : Met l yX4_isLetter wsX4_isLetter { frames := 0, cells := 0, slots := 0, locals := 0 } (va_Pc [.int p0] (mc_Pre (dC, dI) (mc_tys cyI cyJ cyC) [] sz)) (va_Qi (fun r (_ : Unit) => r = rv) (fun _ t => mc_Post (dC, dI) (va_A [] sz) [] t) (va_A [] sz)) 0 0 (va_A [] sz) := by
  refine Met.ofW (cc := cX4_isLetter) (maxL := 1) (ret := (some .boolean)) (by decide +kernel) rfl ?_
  intro p e s m args below meth c s₁ B hml hv
  obtain ⟨rfl, hsz, hP, hK, hD0, hnw⟩ := hv
  have hx := B.exec
  have hb := B.bytes
  have hr := B.returns
  have hts := atoms_spec (ws := wsX4_isLetter) B.pre
  have hown : s.vm.findClass RX4 = some m.cls := findClass_of_methodNamed B.named
  have hlocks := B.notSynchronized
  subst hsz
  have hD := hD0.self (sz := s.heap.size)
  generalize hAe : va_A [] s.heap.size = A at hD ⊢
  have hA : ∀ q : Nat, s.heap.size ≤ q → A q := fun q h => by rw [← hAe]; exact Or.inr h
  have hS : va_S A s.heap s.heap [] := va_S.rf
  have hP : va_P (dC, dI) vwCl [] s.heap := hP
  have hl := lv_entry ([.int p0]) (n := 1) (Nat.le_of_ble_eq_true rfl)
  rw [lg_entry_eq]
  generalize (lg_sl ([.int p0]) ++ List.replicate (1 - (lg_sl ([.int p0])).length) Slot.unset).toArray = ls at hl ⊢
  have hl : lv_has ls 1 [(0, .int p0)] := hl
  obtain ⟨QQ, hQQ⟩ : ∃ Q, Q = MQ below (va_Qi (fun r (_ : Unit) => r = rv) (fun _ t => mc_Post (dC, dI) A [] t) A) ([Value.int p0] : List Value).toArray s 0 0 A := ⟨_, rfl⟩
  rw [← hQQ]
  have h := hf
  unfold f_X4_isLetter at h
  refine lv_iload_n hx hb dX4_isLetter_0 rfl (lv_at hl 0 rfl) ?_
  refine lv_bipush (v := 97) hx hb dX4_isLetter_1 (by decide) ?_
  refine lv_icmp_lt (tgt := 12) hx hb dX4_isLetter_3 (by decide) (fun hc1 => ?_) (fun hc1 => ?_)
  · have h := dm_t hc1 h
    refine lv_iload_n hx hb dX4_isLetter_12 rfl (lv_at hl 0 rfl) ?_
    refine lv_bipush (v := 65) hx hb dX4_isLetter_13 (by decide) ?_
    refine lv_icmp_lt (tgt := 28) hx hb dX4_isLetter_15 (by decide) (fun hc2 => ?_) (fun hc2 => ?_)
    · have h := dm_t hc2 h
      refine lv_iconst (v := 0) hx hb dX4_isLetter_28 (by decide) ?_
      obtain hE0 := dm_i1 h
      subst hE0
      rw [hQQ]
      have hP9 := hP.sub (ws' := []) [] rfl
      have hD9 := hD.sub (ws' := []) [] (by decide) rfl
      exact W.zret (v := (0 : Int32)) hx hb hr rfl (fun t ht hW => ⟨⟨(0 : Int32), (), rfl, rfl, by rw [ht]; exact hP9, hD9⟩, hS.F ht⟩) hS.2.2 dX4_isLetter_29
    · have h := dm_f hc2 h
      refine lv_iload_n hx hb dX4_isLetter_18 rfl (lv_at hl 0 rfl) ?_
      refine lv_bipush (v := 90) hx hb dX4_isLetter_19 (by decide) ?_
      refine lv_icmp_gt (tgt := 28) hx hb dX4_isLetter_21 (by decide) (fun hc3 => ?_) (fun hc3 => ?_)
      · have h := dm_t hc3 h
        refine lv_iconst (v := 0) hx hb dX4_isLetter_28 (by decide) ?_
        obtain hE0 := dm_i1 h
        subst hE0
        rw [hQQ]
        have hP9 := hP.sub (ws' := []) [] rfl
        have hD9 := hD.sub (ws' := []) [] (by decide) rfl
        exact W.zret (v := (0 : Int32)) hx hb hr rfl (fun t ht hW => ⟨⟨(0 : Int32), (), rfl, rfl, by rw [ht]; exact hP9, hD9⟩, hS.F ht⟩) hS.2.2 dX4_isLetter_29
      · have h := dm_f hc3 h
        refine lv_iconst (v := 1) hx hb dX4_isLetter_24 (by decide) ?_
        refine lv_goto (tgt := 29) hx hb dX4_isLetter_25 (by decide) ?_
        obtain hE0 := dm_i1 h
        subst hE0
        rw [hQQ]
        have hP9 := hP.sub (ws' := []) [] rfl
        have hD9 := hD.sub (ws' := []) [] (by decide) rfl
        exact W.zret (v := (1 : Int32)) hx hb hr rfl (fun t ht hW => ⟨⟨(1 : Int32), (), rfl, rfl, by rw [ht]; exact hP9, hD9⟩, hS.F ht⟩) hS.2.2 dX4_isLetter_29
  · have h := dm_f hc1 h
    refine lv_iload_n hx hb dX4_isLetter_6 rfl (lv_at hl 0 rfl) ?_
    refine lv_bipush (v := 122) hx hb dX4_isLetter_7 (by decide) ?_
    refine lv_icmp_le (tgt := 24) hx hb dX4_isLetter_9 (by decide) (fun hc4 => ?_) (fun hc4 => ?_)
    · have h := dm_t hc4 h
      refine lv_iconst (v := 1) hx hb dX4_isLetter_24 (by decide) ?_
      refine lv_goto (tgt := 29) hx hb dX4_isLetter_25 (by decide) ?_
      obtain hE0 := dm_i1 h
      subst hE0
      rw [hQQ]
      have hP9 := hP.sub (ws' := []) [] rfl
      have hD9 := hD.sub (ws' := []) [] (by decide) rfl
      exact W.zret (v := (1 : Int32)) hx hb hr rfl (fun t ht hW => ⟨⟨(1 : Int32), (), rfl, rfl, by rw [ht]; exact hP9, hD9⟩, hS.F ht⟩) hS.2.2 dX4_isLetter_29
    · have h := dm_f hc4 h
      refine lv_iload_n hx hb dX4_isLetter_12 rfl (lv_at hl 0 rfl) ?_
      refine lv_bipush (v := 65) hx hb dX4_isLetter_13 (by decide) ?_
      refine lv_icmp_lt (tgt := 28) hx hb dX4_isLetter_15 (by decide) (fun hc5 => ?_) (fun hc5 => ?_)
      · have h := dm_t hc5 h
        refine lv_iconst (v := 0) hx hb dX4_isLetter_28 (by decide) ?_
        obtain hE0 := dm_i1 h
        subst hE0
        rw [hQQ]
        have hP9 := hP.sub (ws' := []) [] rfl
        have hD9 := hD.sub (ws' := []) [] (by decide) rfl
        exact W.zret (v := (0 : Int32)) hx hb hr rfl (fun t ht hW => ⟨⟨(0 : Int32), (), rfl, rfl, by rw [ht]; exact hP9, hD9⟩, hS.F ht⟩) hS.2.2 dX4_isLetter_29
      · have h := dm_f hc5 h
        refine lv_iload_n hx hb dX4_isLetter_18 rfl (lv_at hl 0 rfl) ?_
        refine lv_bipush (v := 90) hx hb dX4_isLetter_19 (by decide) ?_
        refine lv_icmp_gt (tgt := 28) hx hb dX4_isLetter_21 (by decide) (fun hc6 => ?_) (fun hc6 => ?_)
        · have h := dm_t hc6 h
          refine lv_iconst (v := 0) hx hb dX4_isLetter_28 (by decide) ?_
          obtain hE0 := dm_i1 h
          subst hE0
          rw [hQQ]
          have hP9 := hP.sub (ws' := []) [] rfl
          have hD9 := hD.sub (ws' := []) [] (by decide) rfl
          exact W.zret (v := (0 : Int32)) hx hb hr rfl (fun t ht hW => ⟨⟨(0 : Int32), (), rfl, rfl, by rw [ht]; exact hP9, hD9⟩, hS.F ht⟩) hS.2.2 dX4_isLetter_29
        · have h := dm_f hc6 h
          refine lv_iconst (v := 1) hx hb dX4_isLetter_24 (by decide) ?_
          refine lv_goto (tgt := 29) hx hb dX4_isLetter_25 (by decide) ?_
          obtain hE0 := dm_i1 h
          subst hE0
          rw [hQQ]
          have hP9 := hP.sub (ws' := []) [] rfl
          have hD9 := hD.sub (ws' := []) [] (by decide) rfl
          exact W.zret (v := (1 : Int32)) hx hb hr rfl (fun t ht hW => ⟨⟨(1 : Int32), (), rfl, rfl, by rw [ht]; exact hP9, hD9⟩, hS.F ht⟩) hS.2.2 dX4_isLetter_29

def f_X4_isDigit (p0 : Int32) : Option (Int32) :=
  if p0 < (50 : Int32) then
    some (0 : Int32)
  else
    if (57 : Int32) < p0 then
      some (0 : Int32)
    else
      some (1 : Int32)
set_option maxHeartbeats 4000000 in
set_option maxRecDepth 100000 in
theorem c_X4_isDigit (l : Launch) (dC : Nat → ClassId) (dI : Nat → Nat → Nat) (cyI cyJ cyC : ClassId) (sz : Nat)  (p0 : Int32) (rv : Int32) (hf : f_X4_isDigit p0 = some rv) : Met l yX4_isDigit wsX4_isDigit { frames := 0, cells := 0, slots := 0, locals := 0 } (va_Pc [.int p0] (mc_Pre (dC, dI) (mc_tys cyI cyJ cyC) [] sz)) (va_Qi (fun r (_ : Unit) => r = rv) (fun _ t => mc_Post (dC, dI) (va_A [] sz) [] t) (va_A [] sz)) 0 0 (va_A [] sz) := by
  refine Met.ofW (cc := cX4_isDigit) (maxL := 1) (ret := (some .boolean)) (by decide +kernel) rfl ?_
  intro p e s m args below meth c s₁ B hml hv
  obtain ⟨rfl, hsz, hP, hK, hD0, hnw⟩ := hv
  have hx := B.exec
  have hb := B.bytes
  have hr := B.returns
  have hts := atoms_spec (ws := wsX4_isDigit) B.pre
  have hown : s.vm.findClass RX4 = some m.cls := findClass_of_methodNamed B.named
  have hlocks := B.notSynchronized
  subst hsz
  have hD := hD0.self (sz := s.heap.size)
  generalize hAe : va_A [] s.heap.size = A at hD ⊢
  have hA : ∀ q : Nat, s.heap.size ≤ q → A q := fun q h => by rw [← hAe]; exact Or.inr h
  have hS : va_S A s.heap s.heap [] := va_S.rf
  have hP : va_P (dC, dI) vwCl [] s.heap := hP
  have hl := lv_entry ([.int p0]) (n := 1) (Nat.le_of_ble_eq_true rfl)
  rw [lg_entry_eq]
  generalize (lg_sl ([.int p0]) ++ List.replicate (1 - (lg_sl ([.int p0])).length) Slot.unset).toArray = ls at hl ⊢
  have hl : lv_has ls 1 [(0, .int p0)] := hl
  obtain ⟨QQ, hQQ⟩ : ∃ Q, Q = MQ below (va_Qi (fun r (_ : Unit) => r = rv) (fun _ t => mc_Post (dC, dI) A [] t) A) ([Value.int p0] : List Value).toArray s 0 0 A := ⟨_, rfl⟩
  rw [← hQQ]
  have h := hf
  unfold f_X4_isDigit at h
  refine lv_iload_n hx hb dX4_isDigit_0 rfl (lv_at hl 0 rfl) ?_
  refine lv_bipush (v := 50) hx hb dX4_isDigit_1 (by decide) ?_
  refine lv_icmp_lt (tgt := 16) hx hb dX4_isDigit_3 (by decide) (fun hc1 => ?_) (fun hc1 => ?_)
  · have h := dm_t hc1 h
    refine lv_iconst (v := 0) hx hb dX4_isDigit_16 (by decide) ?_
    obtain hE0 := dm_i1 h
    subst hE0
    rw [hQQ]
    have hP9 := hP.sub (ws' := []) [] rfl
    have hD9 := hD.sub (ws' := []) [] (by decide) rfl
    exact W.zret (v := (0 : Int32)) hx hb hr rfl (fun t ht hW => ⟨⟨(0 : Int32), (), rfl, rfl, by rw [ht]; exact hP9, hD9⟩, hS.F ht⟩) hS.2.2 dX4_isDigit_17
  · have h := dm_f hc1 h
    refine lv_iload_n hx hb dX4_isDigit_6 rfl (lv_at hl 0 rfl) ?_
    refine lv_bipush (v := 57) hx hb dX4_isDigit_7 (by decide) ?_
    refine lv_icmp_gt (tgt := 16) hx hb dX4_isDigit_9 (by decide) (fun hc2 => ?_) (fun hc2 => ?_)
    · have h := dm_t hc2 h
      refine lv_iconst (v := 0) hx hb dX4_isDigit_16 (by decide) ?_
      obtain hE0 := dm_i1 h
      subst hE0
      rw [hQQ]
      have hP9 := hP.sub (ws' := []) [] rfl
      have hD9 := hD.sub (ws' := []) [] (by decide) rfl
      exact W.zret (v := (0 : Int32)) hx hb hr rfl (fun t ht hW => ⟨⟨(0 : Int32), (), rfl, rfl, by rw [ht]; exact hP9, hD9⟩, hS.F ht⟩) hS.2.2 dX4_isDigit_17
    · have h := dm_f hc2 h
      refine lv_iconst (v := 1) hx hb dX4_isDigit_12 (by decide) ?_
      refine lv_goto (tgt := 17) hx hb dX4_isDigit_13 (by decide) ?_
      obtain hE0 := dm_i1 h
      subst hE0
      rw [hQQ]
      have hP9 := hP.sub (ws' := []) [] rfl
      have hD9 := hD.sub (ws' := []) [] (by decide) rfl
      exact W.zret (v := (1 : Int32)) hx hb hr rfl (fun t ht hW => ⟨⟨(1 : Int32), (), rfl, rfl, by rw [ht]; exact hP9, hD9⟩, hS.F ht⟩) hS.2.2 dX4_isDigit_17

def f_X4_put_L88 (p0 : Int32)  : Nat → Int32 → Int32 → (Nat → Int32) → Option (Int32 × Int32 × Int32 × (Nat → Int32))
  | 0, _, _, _ => none
  | n + 1, v8, v9, v10 =>
    if v8 < 0 then
      some ((1 : Int32), (0 : Int32), v9, v10)
    else
      dm_let ((((p0 >>> (((8 : Int32) * v8) &&& 31)) &&& (255 : Int32))).toUInt32 % 65536).toInt32 fun x12 =>
      dm_g (¬ (v9 < 0 ∨ 40 ≤ (v9).toNatClampNeg)) <|
      dm_let (v9 + (1 : Int32)) fun x14 =>
      dm_let (v8 + (-1 : Int32)) fun x15 =>
      f_X4_put_L88 p0 n x15 x14 (upd v10 (v9).toNatClampNeg (vp_nar .char x12))
def f_X4_put_L29 (tlet : Int32) (twd : Nat → Int32) (p0 : Int32) (p1 : Int32)  : Nat → Int32 → Option (Int32 × Int32 × Int32 × (Nat → Int32))
  | 0, _ => none
  | n + 1, v5 =>
    if p1 ≤ v5 then
      dm_let (p1 - (1 : Int32)) fun x7 =>
      f_X4_put_L88 p0 100000 x7 tlet twd
    else
      dm_let ((p0 >>> (((8 : Int32) * v5) &&& 31)) &&& (255 : Int32)) fun x16 =>
      dm_b1 (f_X4_isLetter x16) fun r17 =>
      if r17 = 0 then
        dm_b1 (f_X4_isDigit x16) fun r21 =>
        if r21 = 0 then
          if x16 = (40 : Int32) then
            dm_let (v5 + (1 : Int32)) fun x26 =>
            f_X4_put_L29 tlet twd p0 p1 n x26
          else
            if x16 = (41 : Int32) then
              dm_let (v5 + (1 : Int32)) fun x28 =>
              f_X4_put_L29 tlet twd p0 p1 n x28
            else
              some ((0 : Int32), (0 : Int32), tlet, twd)
        else
          dm_let (v5 + (1 : Int32)) fun x24 =>
          f_X4_put_L29 tlet twd p0 p1 n x24
      else
        dm_let (v5 + (1 : Int32)) fun x20 =>
        f_X4_put_L29 tlet twd p0 p1 n x20
def f_X4_put (tlet : Int32) (twd : Nat → Int32) (p0 : Int32) (p1 : Int32) : Option (Int32 × Int32 × Int32 × (Nat → Int32)) :=
  dm_b1 (f_X4_outside p1 (1 : Int32) (4 : Int32)) fun r1 =>
  if r1 = 0 then
    if (tlet + p1) ≤ (40 : Int32) then
      f_X4_put_L29 tlet twd p0 p1 100000 (0 : Int32)
    else
      some ((0 : Int32), (0 : Int32), tlet, twd)
  else
    some ((0 : Int32), (0 : Int32), tlet, twd)
set_option maxHeartbeats 4000000 in
set_option maxRecDepth 100000 in
theorem c_X4_put (l : Launch) (dC : Nat → ClassId) (dI : Nat → Nat → Nat) (cyI cyJ cyC : ClassId) (th tqA tqB tqC tqL tqW tqO : Nat) (sz : Nat) (tthr : Int32) (tdd : Int32) (tn : Int32) (tla : Nat → Int64) (tlb : Nat → Int64) (tlc : Nat → Int64) (ta : Int64) (tb : Int64) (tc : Int64) (tp : Int64) (tq : Int64) (tr : Int64) (ts : Int64) (tsome : Int32) (tlast : Nat → Int64) (tlet : Int32) (twd : Nat → Int32) (topn : Nat → Int32) (p0 : Int32) (p1 : Int32) (rv : Int32) (tthr' : Int32) (tlet' : Int32) (twd' : Nat → Int32) (hf : f_X4_put tlet twd p0 p1 = some (rv, tthr', tlet', twd')) : Met l yX4_put wsX4_put { frames := 1, cells := 0, slots := 0, locals := 22 } (va_Pc [.ref th, .int p0, .int p1] (mc_Pre (dC, dI) (mc_tys cyI cyJ cyC) [(th, .inr (4, [.int tthr, .int tdd, .int tn, .ref tqA, .ref tqB, .ref tqC, .long ta, .long tb, .long tc, .long tp, .long tq, .long tr, .long ts, .int tsome, .ref tqL, .int tlet, .ref tqW, .ref tqO])), (tqA, .inl (cyJ, 40, .inr (.inl tla))), (tqB, .inl (cyJ, 40, .inr (.inl tlb))), (tqC, .inl (cyJ, 40, .inr (.inl tlc))), (tqL, .inl (cyJ, 7, .inr (.inl tlast))), (tqW, .inl (cyC, 40, .inl twd)), (tqO, .inl (cyI, 5, .inl topn))] sz)) (va_Qi (fun r (_ : Unit) => r = rv) (fun _ t => mc_Post (dC, dI) (va_A [(th, .inr (4, [.int tthr, .int tdd, .int tn, .ref tqA, .ref tqB, .ref tqC, .long ta, .long tb, .long tc, .long tp, .long tq, .long tr, .long ts, .int tsome, .ref tqL, .int tlet, .ref tqW, .ref tqO])), (tqA, .inl (cyJ, 40, .inr (.inl tla))), (tqB, .inl (cyJ, 40, .inr (.inl tlb))), (tqC, .inl (cyJ, 40, .inr (.inl tlc))), (tqL, .inl (cyJ, 7, .inr (.inl tlast))), (tqW, .inl (cyC, 40, .inl twd)), (tqO, .inl (cyI, 5, .inl topn))] sz) [(th, .inr (4, [.int tthr', .int tdd, .int tn, .ref tqA, .ref tqB, .ref tqC, .long ta, .long tb, .long tc, .long tp, .long tq, .long tr, .long ts, .int tsome, .ref tqL, .int tlet', .ref tqW, .ref tqO])), (tqA, .inl (cyJ, 40, .inr (.inl tla))), (tqB, .inl (cyJ, 40, .inr (.inl tlb))), (tqC, .inl (cyJ, 40, .inr (.inl tlc))), (tqL, .inl (cyJ, 7, .inr (.inl tlast))), (tqW, .inl (cyC, 40, .inl twd')), (tqO, .inl (cyI, 5, .inl topn))] t) (va_A [(th, .inr (4, [.int tthr, .int tdd, .int tn, .ref tqA, .ref tqB, .ref tqC, .long ta, .long tb, .long tc, .long tp, .long tq, .long tr, .long ts, .int tsome, .ref tqL, .int tlet, .ref tqW, .ref tqO])), (tqA, .inl (cyJ, 40, .inr (.inl tla))), (tqB, .inl (cyJ, 40, .inr (.inl tlb))), (tqC, .inl (cyJ, 40, .inr (.inl tlc))), (tqL, .inl (cyJ, 7, .inr (.inl tlast))), (tqW, .inl (cyC, 40, .inl twd)), (tqO, .inl (cyI, 5, .inl topn))] sz)) 0 0 (va_A [(th, .inr (4, [.int tthr, .int tdd, .int tn, .ref tqA, .ref tqB, .ref tqC, .long ta, .long tb, .long tc, .long tp, .long tq, .long tr, .long ts, .int tsome, .ref tqL, .int tlet, .ref tqW, .ref tqO])), (tqA, .inl (cyJ, 40, .inr (.inl tla))), (tqB, .inl (cyJ, 40, .inr (.inl tlb))), (tqC, .inl (cyJ, 40, .inr (.inl tlc))), (tqL, .inl (cyJ, 7, .inr (.inl tlast))), (tqW, .inl (cyC, 40, .inl twd)), (tqO, .inl (cyI, 5, .inl topn))] sz) := by
  refine Met.ofW (cc := cX4_put) (maxL := 5) (ret := (some .boolean)) (by decide +kernel) rfl ?_
  intro p e s m args below meth c s₁ B hml hv
  obtain ⟨rfl, hsz, hP, hK, hD0, hnw⟩ := hv
  have hx := B.exec
  have hb := B.bytes
  have hr := B.returns
  have hts := atoms_spec (ws := wsX4_put) B.pre
  have hown : s.vm.findClass RX4 = some m.cls := findClass_of_methodNamed B.named
  have hlocks := B.notSynchronized
  have hinX4 : ∀ w ∈ wsX40, w ∈ wsX4_put := by decide +kernel
  subst hsz
  have hD := hD0.self (sz := s.heap.size)
  generalize hAe : va_A [(th, .inr (4, [.int tthr, .int tdd, .int tn, .ref tqA, .ref tqB, .ref tqC, .long ta, .long tb, .long tc, .long tp, .long tq, .long tr, .long ts, .int tsome, .ref tqL, .int tlet, .ref tqW, .ref tqO])), (tqA, .inl (cyJ, 40, .inr (.inl tla))), (tqB, .inl (cyJ, 40, .inr (.inl tlb))), (tqC, .inl (cyJ, 40, .inr (.inl tlc))), (tqL, .inl (cyJ, 7, .inr (.inl tlast))), (tqW, .inl (cyC, 40, .inl twd)), (tqO, .inl (cyI, 5, .inl topn))] s.heap.size = A at hD ⊢
  have hA : ∀ q : Nat, s.heap.size ≤ q → A q := fun q h => by rw [← hAe]; exact Or.inr h
  have hS : va_S A s.heap s.heap [] := va_S.rf
  have hP : va_P (dC, dI) vwCl [(th, .inr (4, [.int tthr, .int tdd, .int tn, .ref tqA, .ref tqB, .ref tqC, .long ta, .long tb, .long tc, .long tp, .long tq, .long tr, .long ts, .int tsome, .ref tqL, .int tlet, .ref tqW, .ref tqO])), (tqA, .inl (cyJ, 40, .inr (.inl tla))), (tqB, .inl (cyJ, 40, .inr (.inl tlb))), (tqC, .inl (cyJ, 40, .inr (.inl tlc))), (tqL, .inl (cyJ, 7, .inr (.inl tlast))), (tqW, .inl (cyC, 40, .inl twd)), (tqO, .inl (cyI, 5, .inl topn))] s.heap := hP
  have hl := lv_entry ([.ref th, .int p0, .int p1]) (n := 5) (Nat.le_of_ble_eq_true rfl)
  rw [lg_entry_eq]
  generalize (lg_sl ([.ref th, .int p0, .int p1]) ++ List.replicate (5 - (lg_sl ([.ref th, .int p0, .int p1])).length) Slot.unset).toArray = ls at hl ⊢
  have hl : lv_has ls 5 [(0, .ref th), (1, .int p0), (2, .int p1)] := hl
  obtain ⟨QQ, hQQ⟩ : ∃ Q, Q = MQ below (va_Qi (fun r (_ : Unit) => r = rv) (fun _ t => mc_Post (dC, dI) A [(th, .inr (4, [.int tthr', .int tdd, .int tn, .ref tqA, .ref tqB, .ref tqC, .long ta, .long tb, .long tc, .long tp, .long tq, .long tr, .long ts, .int tsome, .ref tqL, .int tlet', .ref tqW, .ref tqO])), (tqA, .inl (cyJ, 40, .inr (.inl tla))), (tqB, .inl (cyJ, 40, .inr (.inl tlb))), (tqC, .inl (cyJ, 40, .inr (.inl tlc))), (tqL, .inl (cyJ, 7, .inr (.inl tlast))), (tqW, .inl (cyC, 40, .inl twd')), (tqO, .inl (cyI, 5, .inl topn))] t) A) ([Value.ref th, Value.int p0, Value.int p1] : List Value).toArray s 0 0 A := ⟨_, rfl⟩
  rw [← hQQ]
  have h := hf
  unfold f_X4_put at h
  refine lv_aload_n hx hb dX4_put_0 rfl (lv_at hl 0 rfl) ?_
  refine lv_iconst (v := 0) hx hb dX4_put_1 (by decide) ?_
  refine va_put (D := (dC, dI)) (ci := 4) (v := .int (0 : Int32)) (ty := .int) (C := RX4) (T := TX4) (N := 18) hx hb hts hinX4 tyX4 tyX4_ok nmX4 hown hK hP hD hS 0 rfl rfl 0 (by decide) (hts (.fieldLink RX4 38 "FormDeskModel" "thrown" "I") (by decide +kernel)) (fun _ h9 => h9) rfl (by decide +kernel) rfl rfl (Nat.le_of_ble_eq_true rfl) dX4_put_2 (fun H locs hP hD hS => ?_)
  have hP : va_P (dC, dI) vwCl [(th, .inr (4, [.int (0 : Int32), .int tdd, .int tn, .ref tqA, .ref tqB, .ref tqC, .long ta, .long tb, .long tc, .long tp, .long tq, .long tr, .long ts, .int tsome, .ref tqL, .int tlet, .ref tqW, .ref tqO])), (tqA, .inl (cyJ, 40, .inr (.inl tla))), (tqB, .inl (cyJ, 40, .inr (.inl tlb))), (tqC, .inl (cyJ, 40, .inr (.inl tlc))), (tqL, .inl (cyJ, 7, .inr (.inl tlast))), (tqW, .inl (cyC, 40, .inl twd)), (tqO, .inl (cyI, 5, .inl topn))] H := hP
  have hD : va_D A [(th, .inr (4, [.int (0 : Int32), .int tdd, .int tn, .ref tqA, .ref tqB, .ref tqC, .long ta, .long tb, .long tc, .long tp, .long tq, .long tr, .long ts, .int tsome, .ref tqL, .int tlet, .ref tqW, .ref tqO])), (tqA, .inl (cyJ, 40, .inr (.inl tla))), (tqB, .inl (cyJ, 40, .inr (.inl tlb))), (tqC, .inl (cyJ, 40, .inr (.inl tlc))), (tqL, .inl (cyJ, 7, .inr (.inl tlast))), (tqW, .inl (cyC, 40, .inl twd)), (tqO, .inl (cyI, 5, .inl topn))] := hD
  refine lv_iload_n hx hb dX4_put_5 rfl (lv_at hl 2 rfl) ?_
  refine lv_iconst (v := 1) hx hb dX4_put_6 (by decide) ?_
  refine lv_iconst (v := 4) hx hb dX4_put_7 (by decide) ?_
  obtain ⟨r1, hk2, h⟩ := dm_b1s h
  refine mc_i (wr := [(th, .inr (4, [.int (0 : Int32), .int tdd, .int tn, .ref tqA, .ref tqB, .ref tqC, .long ta, .long tb, .long tc, .long tp, .long tq, .long tr, .long ts, .int tsome, .ref tqL, .int tlet, .ref tqW, .ref tqO])), (tqA, .inl (cyJ, 40, .inr (.inl tla))), (tqB, .inl (cyJ, 40, .inr (.inl tlb))), (tqC, .inl (cyJ, 40, .inr (.inl tlc))), (tqL, .inl (cyJ, 7, .inr (.inl tlast))), (tqW, .inl (cyC, 40, .inl twd)), (tqO, .inl (cyI, 5, .inl topn))]) (va_runS (As := [.int p1, .int (1 : Int32), .int (4 : Int32)]) (rest := []) ⟨hx, hb, hml, hown, hts⟩ (c_X4_outside l dC dI cyI cyJ cyC H.size p1 (1 : Int32) (4 : Int32) r1 hk2) (va_cwS 3 hts gX4_put_X4_outside rfl rfl rfl (by decide +kernel) ⟨(Nat.le_of_ble_eq_true rfl), (Nat.le_of_ble_eq_true rfl)⟩) (mc_preS hK (hP.sub (ws' := []) [] rfl) (hD.sub (ws' := []) [] (by decide) rfl) hnw) rfl rfl hl.1 rfl (lv_room (Nat.le_of_ble_eq_true rfl)) dX4_put_8 ⟨Nat.zero_le _, Nat.zero_le _⟩) hP hD hS hA [] [0, 1, 2, 3, 4, 5, 6] rfl rfl rfl (by decide) (fun H locs hP hD hS => ?_)
  have hP : va_P (dC, dI) vwCl [(th, .inr (4, [.int (0 : Int32), .int tdd, .int tn, .ref tqA, .ref tqB, .ref tqC, .long ta, .long tb, .long tc, .long tp, .long tq, .long tr, .long ts, .int tsome, .ref tqL, .int tlet, .ref tqW, .ref tqO])), (tqA, .inl (cyJ, 40, .inr (.inl tla))), (tqB, .inl (cyJ, 40, .inr (.inl tlb))), (tqC, .inl (cyJ, 40, .inr (.inl tlc))), (tqL, .inl (cyJ, 7, .inr (.inl tlast))), (tqW, .inl (cyC, 40, .inl twd)), (tqO, .inl (cyI, 5, .inl topn))] H := hP
  have hD : va_D A [(th, .inr (4, [.int (0 : Int32), .int tdd, .int tn, .ref tqA, .ref tqB, .ref tqC, .long ta, .long tb, .long tc, .long tp, .long tq, .long tr, .long ts, .int tsome, .ref tqL, .int tlet, .ref tqW, .ref tqO])), (tqA, .inl (cyJ, 40, .inr (.inl tla))), (tqB, .inl (cyJ, 40, .inr (.inl tlb))), (tqC, .inl (cyJ, 40, .inr (.inl tlc))), (tqL, .inl (cyJ, 7, .inr (.inl tlast))), (tqW, .inl (cyC, 40, .inl twd)), (tqO, .inl (cyI, 5, .inl topn))] := hD
  refine lv_if_ne (tgt := 25) hx hb dX4_put_11 (by decide) (fun hc3 => ?_) (fun hc3 => ?_)
  · have h := dm_f hc3 h
    refine lv_iconst (v := 0) hx hb dX4_put_25 (by decide) ?_
    obtain ⟨hE0, hE1, hE2, hE3⟩ := dm_i4 h
    subst hE0; subst hE1; subst hE2; subst hE3
    rw [hQQ]
    have hP9 := hP.sub (ws' := [(th, .inr (4, [.int (0 : Int32), .int tdd, .int tn, .ref tqA, .ref tqB, .ref tqC, .long ta, .long tb, .long tc, .long tp, .long tq, .long tr, .long ts, .int tsome, .ref tqL, .int tlet, .ref tqW, .ref tqO])), (tqA, .inl (cyJ, 40, .inr (.inl tla))), (tqB, .inl (cyJ, 40, .inr (.inl tlb))), (tqC, .inl (cyJ, 40, .inr (.inl tlc))), (tqL, .inl (cyJ, 7, .inr (.inl tlast))), (tqW, .inl (cyC, 40, .inl twd)), (tqO, .inl (cyI, 5, .inl topn))]) [0, 1, 2, 3, 4, 5, 6] rfl
    have hD9 := hD.sub (ws' := [(th, .inr (4, [.int (0 : Int32), .int tdd, .int tn, .ref tqA, .ref tqB, .ref tqC, .long ta, .long tb, .long tc, .long tp, .long tq, .long tr, .long ts, .int tsome, .ref tqL, .int tlet, .ref tqW, .ref tqO])), (tqA, .inl (cyJ, 40, .inr (.inl tla))), (tqB, .inl (cyJ, 40, .inr (.inl tlb))), (tqC, .inl (cyJ, 40, .inr (.inl tlc))), (tqL, .inl (cyJ, 7, .inr (.inl tlast))), (tqW, .inl (cyC, 40, .inl twd)), (tqO, .inl (cyI, 5, .inl topn))]) [0, 1, 2, 3, 4, 5, 6] (by decide) rfl
    exact W.zret (v := (0 : Int32)) hx hb hr rfl (fun t ht hW => ⟨⟨(0 : Int32), (), rfl, rfl, by rw [ht]; exact hP9, hD9⟩, hS.F ht⟩) hS.2.2 dX4_put_26
  · have h := dm_t hc3 h
    refine lv_aload_n hx hb dX4_put_14 rfl (lv_at hl 0 rfl) ?_
    refine va_get (D := (dC, dI)) (ci := 4) (v := .int tlet) (C := RX4) (T := TX4) (N := 18) hx hb hts hinX4 hown hK hP 0 rfl rfl 15 (by decide) (hts (.fieldLink RX4 163 "FormDeskModel" "letters" "I") (by decide +kernel)) (fun _ h9 => h9) rfl dX4_put_15 ?_
    refine lv_iload_n hx hb dX4_put_18 rfl (lv_at hl 2 rfl) ?_
    refine lv_iadd hx hb dX4_put_19 ?_
    refine lv_bipush (v := 40) hx hb dX4_put_20 (by decide) ?_
    refine lv_icmp_le (tgt := 27) hx hb dX4_put_22 (by decide) (fun hc4 => ?_) (fun hc4 => ?_)
    · have h := dm_t hc4 h
      refine lv_iconst (v := 0) hx hb dX4_put_27 (by decide) ?_
      refine lv_istore_n (lv' := [(3, .int (0 : Int32)), (0, .ref th), (1, .int p0), (2, .int p1)]) hx hb dX4_put_28 rfl hl (by decide) rfl (fun ls hl => ?_)
      have L29 : ∀ (n29 : Nat) (v5 : Int32) (H : Heap) (locs : List Loc) (ls : Array Slot), f_X4_put_L29 tlet twd p0 p1 n29 v5 = some (rv, tthr', tlet', twd') → va_P (dC, dI) vwCl [(th, .inr (4, [.int (0 : Int32), .int tdd, .int tn, .ref tqA, .ref tqB, .ref tqC, .long ta, .long tb, .long tc, .long tp, .long tq, .long tr, .long ts, .int tsome, .ref tqL, .int tlet, .ref tqW, .ref tqO])), (tqA, .inl (cyJ, 40, .inr (.inl tla))), (tqB, .inl (cyJ, 40, .inr (.inl tlb))), (tqC, .inl (cyJ, 40, .inr (.inl tlc))), (tqL, .inl (cyJ, 7, .inr (.inl tlast))), (tqW, .inl (cyC, 40, .inl twd)), (tqO, .inl (cyI, 5, .inl topn))] H → va_D A [(th, .inr (4, [.int (0 : Int32), .int tdd, .int tn, .ref tqA, .ref tqB, .ref tqC, .long ta, .long tb, .long tc, .long tp, .long tq, .long tr, .long ts, .int tsome, .ref tqL, .int tlet, .ref tqW, .ref tqO])), (tqA, .inl (cyJ, 40, .inr (.inl tla))), (tqB, .inl (cyJ, 40, .inr (.inl tlb))), (tqC, .inl (cyJ, 40, .inr (.inl tlc))), (tqL, .inl (cyJ, 7, .inr (.inl tlast))), (tqW, .inl (cyC, 40, .inl twd)), (tqO, .inl (cyI, 5, .inl topn))] → va_S A s.heap H locs → lv_has ls 5 [(3, .int v5), (0, .ref th), (1, .int p0), (2, .int p1)] → W p l e (headSpec wsX4_put { frames := 1, cells := 0, slots := 0, locals := 22 }).room s m ([Value.ref th, Value.int p0, Value.int p1] : List Value).toArray below meth c H locs 0 0 QQ (F0 m 29 ls []) := by
        intro n29
        induction n29 with
        | zero =>
          intro v5 H locs ls h
          exact nomatch (show (none : Option (Int32 × Int32 × Int32 × (Nat → Int32))) = some _ from h)
        | succ n29 ih29 =>
          intro v5 H locs ls h hP hD hS hl
          rw [f_X4_put_L29] at h
          refine lv_iload_n hx hb dX4_put_29 rfl (lv_at hl 0 rfl) ?_
          refine lv_iload_n hx hb dX4_put_30 rfl (lv_at hl 3 rfl) ?_
          refine lv_icmp_ge (tgt := 84) hx hb dX4_put_31 (by decide) (fun hc6 => ?_) (fun hc6 => ?_)
          · have h := dm_t hc6 h
            refine lv_iload_n hx hb dX4_put_84 rfl (lv_at hl 3 rfl) ?_
            refine lv_iconst (v := 1) hx hb dX4_put_85 (by decide) ?_
            refine lv_isub hx hb dX4_put_86 ?_
            refine lv_topi (fun x7 ex7 => ?_)
            have h := dm_lu ex7 h
            refine lv_istore_n (lv' := [(3, .int x7), (0, .ref th), (1, .int p0), (2, .int p1)]) hx hb dX4_put_87 rfl hl (by decide) rfl (fun ls hl => ?_)
            have L88 : ∀ (n88 : Nat) (v8 : Int32) (v9 : Int32) (v10 : Nat → Int32) (H : Heap) (locs : List Loc) (ls : Array Slot), f_X4_put_L88 p0 n88 v8 v9 v10 = some (rv, tthr', tlet', twd') → va_P (dC, dI) vwCl [(th, .inr (4, [.int (0 : Int32), .int tdd, .int tn, .ref tqA, .ref tqB, .ref tqC, .long ta, .long tb, .long tc, .long tp, .long tq, .long tr, .long ts, .int tsome, .ref tqL, .int v9, .ref tqW, .ref tqO])), (tqA, .inl (cyJ, 40, .inr (.inl tla))), (tqB, .inl (cyJ, 40, .inr (.inl tlb))), (tqC, .inl (cyJ, 40, .inr (.inl tlc))), (tqL, .inl (cyJ, 7, .inr (.inl tlast))), (tqW, .inl (cyC, 40, .inl v10)), (tqO, .inl (cyI, 5, .inl topn))] H → va_D A [(th, .inr (4, [.int (0 : Int32), .int tdd, .int tn, .ref tqA, .ref tqB, .ref tqC, .long ta, .long tb, .long tc, .long tp, .long tq, .long tr, .long ts, .int tsome, .ref tqL, .int v9, .ref tqW, .ref tqO])), (tqA, .inl (cyJ, 40, .inr (.inl tla))), (tqB, .inl (cyJ, 40, .inr (.inl tlb))), (tqC, .inl (cyJ, 40, .inr (.inl tlc))), (tqL, .inl (cyJ, 7, .inr (.inl tlast))), (tqW, .inl (cyC, 40, .inl v10)), (tqO, .inl (cyI, 5, .inl topn))] → va_S A s.heap H locs → lv_has ls 5 [(3, .int v8), (0, .ref th), (1, .int p0), (2, .int p1)] → W p l e (headSpec wsX4_put { frames := 1, cells := 0, slots := 0, locals := 22 }).room s m ([Value.ref th, Value.int p0, Value.int p1] : List Value).toArray below meth c H locs 0 0 QQ (F0 m 88 ls []) := by
              intro n88
              induction n88 with
              | zero =>
                intro v8 v9 v10 H locs ls h
                exact nomatch (show (none : Option (Int32 × Int32 × Int32 × (Nat → Int32))) = some _ from h)
              | succ n88 ih88 =>
                intro v8 v9 v10 H locs ls h hP hD hS hl
                rw [f_X4_put_L88] at h
                refine lv_iload_n hx hb dX4_put_88 rfl (lv_at hl 0 rfl) ?_
                refine lv_if_lt (tgt := 128) hx hb dX4_put_89 (by decide) (fun hc11 => ?_) (fun hc11 => ?_)
                · have h := dm_t hc11 h
                  refine lv_iconst (v := 1) hx hb dX4_put_128 (by decide) ?_
                  obtain ⟨hE0, hE1, hE2, hE3⟩ := dm_i4 h
                  subst hE0; subst hE1; subst hE2; subst hE3
                  rw [hQQ]
                  have hP9 := hP.sub (ws' := [(th, .inr (4, [.int (0 : Int32), .int tdd, .int tn, .ref tqA, .ref tqB, .ref tqC, .long ta, .long tb, .long tc, .long tp, .long tq, .long tr, .long ts, .int tsome, .ref tqL, .int v9, .ref tqW, .ref tqO])), (tqA, .inl (cyJ, 40, .inr (.inl tla))), (tqB, .inl (cyJ, 40, .inr (.inl tlb))), (tqC, .inl (cyJ, 40, .inr (.inl tlc))), (tqL, .inl (cyJ, 7, .inr (.inl tlast))), (tqW, .inl (cyC, 40, .inl v10)), (tqO, .inl (cyI, 5, .inl topn))]) [0, 1, 2, 3, 4, 5, 6] rfl
                  have hD9 := hD.sub (ws' := [(th, .inr (4, [.int (0 : Int32), .int tdd, .int tn, .ref tqA, .ref tqB, .ref tqC, .long ta, .long tb, .long tc, .long tp, .long tq, .long tr, .long ts, .int tsome, .ref tqL, .int v9, .ref tqW, .ref tqO])), (tqA, .inl (cyJ, 40, .inr (.inl tla))), (tqB, .inl (cyJ, 40, .inr (.inl tlb))), (tqC, .inl (cyJ, 40, .inr (.inl tlc))), (tqL, .inl (cyJ, 7, .inr (.inl tlast))), (tqW, .inl (cyC, 40, .inl v10)), (tqO, .inl (cyI, 5, .inl topn))]) [0, 1, 2, 3, 4, 5, 6] (by decide) rfl
                  exact W.zret (v := (1 : Int32)) hx hb hr rfl (fun t ht hW => ⟨⟨(1 : Int32), (), rfl, rfl, by rw [ht]; exact hP9, hD9⟩, hS.F ht⟩) hS.2.2 dX4_put_129
                · have h := dm_f hc11 h
                  refine lv_aload_n hx hb dX4_put_92 rfl (lv_at hl 1 rfl) ?_
                  refine va_get (D := (dC, dI)) (ci := 4) (v := .ref tqW) (C := RX4) (T := TX4) (N := 18) hx hb hts hinX4 hown hK hP 0 rfl rfl 16 (by decide) (hts (.fieldLink RX4 26 "FormDeskModel" "word" "[C") (by decide +kernel)) (fun _ h9 => h9) rfl dX4_put_93 ?_
                  refine lv_aload_n hx hb dX4_put_96 rfl (lv_at hl 1 rfl) ?_
                  refine va_get (D := (dC, dI)) (ci := 4) (v := .int v9) (C := RX4) (T := TX4) (N := 18) hx hb hts hinX4 hown hK hP 0 rfl rfl 15 (by decide) (hts (.fieldLink RX4 163 "FormDeskModel" "letters" "I") (by decide +kernel)) (fun _ h9 => h9) rfl dX4_put_97 ?_
                  refine lv_iload_n hx hb dX4_put_100 rfl (lv_at hl 2 rfl) ?_
                  refine lv_bipush (v := 8) hx hb dX4_put_101 (by decide) ?_
                  refine lv_iload_n hx hb dX4_put_103 rfl (lv_at hl 0 rfl) ?_
                  refine lv_imul hx hb dX4_put_104 ?_
                  refine lv_ishr hx hb dX4_put_105 ?_
                  refine lv_sipush (v := 255) hx hb dX4_put_106 (by decide) ?_
                  refine lv_iand hx hb dX4_put_109 ?_
                  refine lv_i2c (v := ((((p0 >>> (((8 : Int32) * v8) &&& 31)) &&& (255 : Int32))).toUInt32 % 65536).toInt32) hx hb dX4_put_110 rfl ?_
                  refine lv_topi (fun x12 ex12 => ?_)
                  have h := dm_lu ex12 h
                  obtain ⟨hn13, h⟩ := dm_gs h
                  refine va_cast hx hb hK hP hD hS 5 2 rfl rfl hn13 dX4_put_111 (fun H locs hP hD hS => ?_)
                  have hP : va_P (dC, dI) vwCl [(th, .inr (4, [.int (0 : Int32), .int tdd, .int tn, .ref tqA, .ref tqB, .ref tqC, .long ta, .long tb, .long tc, .long tp, .long tq, .long tr, .long ts, .int tsome, .ref tqL, .int v9, .ref tqW, .ref tqO])), (tqA, .inl (cyJ, 40, .inr (.inl tla))), (tqB, .inl (cyJ, 40, .inr (.inl tlb))), (tqC, .inl (cyJ, 40, .inr (.inl tlc))), (tqL, .inl (cyJ, 7, .inr (.inl tlast))), (tqW, .inl (cyC, 40, .inl (upd v10 (v9).toNatClampNeg (vp_nar .char x12)))), (tqO, .inl (cyI, 5, .inl topn))] H := hP
                  have hD : va_D A [(th, .inr (4, [.int (0 : Int32), .int tdd, .int tn, .ref tqA, .ref tqB, .ref tqC, .long ta, .long tb, .long tc, .long tp, .long tq, .long tr, .long ts, .int tsome, .ref tqL, .int v9, .ref tqW, .ref tqO])), (tqA, .inl (cyJ, 40, .inr (.inl tla))), (tqB, .inl (cyJ, 40, .inr (.inl tlb))), (tqC, .inl (cyJ, 40, .inr (.inl tlc))), (tqL, .inl (cyJ, 7, .inr (.inl tlast))), (tqW, .inl (cyC, 40, .inl (upd v10 (v9).toNatClampNeg (vp_nar .char x12)))), (tqO, .inl (cyI, 5, .inl topn))] := hD
                  refine lv_aload_n hx hb dX4_put_112 rfl (lv_at hl 1 rfl) ?_
                  refine lv_dup hx hb dX4_put_113 rfl ?_
                  refine va_get (D := (dC, dI)) (ci := 4) (v := .int v9) (C := RX4) (T := TX4) (N := 18) hx hb hts hinX4 hown hK hP 0 rfl rfl 15 (by decide) (hts (.fieldLink RX4 163 "FormDeskModel" "letters" "I") (by decide +kernel)) (fun _ h9 => h9) rfl dX4_put_114 ?_
                  refine lv_iconst (v := 1) hx hb dX4_put_117 (by decide) ?_
                  refine lv_iadd hx hb dX4_put_118 ?_
                  refine lv_topi (fun x14 ex14 => ?_)
                  have h := dm_lu ex14 h
                  refine va_put (D := (dC, dI)) (ci := 4) (v := .int x14) (ty := .int) (C := RX4) (T := TX4) (N := 18) hx hb hts hinX4 tyX4 tyX4_ok nmX4 hown hK hP hD hS 0 rfl rfl 15 (by decide) (hts (.fieldLink RX4 163 "FormDeskModel" "letters" "I") (by decide +kernel)) (fun _ h9 => h9) rfl (by decide +kernel) rfl rfl (Nat.le_of_ble_eq_true rfl) dX4_put_119 (fun H locs hP hD hS => ?_)
                  have hP : va_P (dC, dI) vwCl [(th, .inr (4, [.int (0 : Int32), .int tdd, .int tn, .ref tqA, .ref tqB, .ref tqC, .long ta, .long tb, .long tc, .long tp, .long tq, .long tr, .long ts, .int tsome, .ref tqL, .int x14, .ref tqW, .ref tqO])), (tqA, .inl (cyJ, 40, .inr (.inl tla))), (tqB, .inl (cyJ, 40, .inr (.inl tlb))), (tqC, .inl (cyJ, 40, .inr (.inl tlc))), (tqL, .inl (cyJ, 7, .inr (.inl tlast))), (tqW, .inl (cyC, 40, .inl (upd v10 (v9).toNatClampNeg (vp_nar .char x12)))), (tqO, .inl (cyI, 5, .inl topn))] H := hP
                  have hD : va_D A [(th, .inr (4, [.int (0 : Int32), .int tdd, .int tn, .ref tqA, .ref tqB, .ref tqC, .long ta, .long tb, .long tc, .long tp, .long tq, .long tr, .long ts, .int tsome, .ref tqL, .int x14, .ref tqW, .ref tqO])), (tqA, .inl (cyJ, 40, .inr (.inl tla))), (tqB, .inl (cyJ, 40, .inr (.inl tlb))), (tqC, .inl (cyJ, 40, .inr (.inl tlc))), (tqL, .inl (cyJ, 7, .inr (.inl tlast))), (tqW, .inl (cyC, 40, .inl (upd v10 (v9).toNatClampNeg (vp_nar .char x12)))), (tqO, .inl (cyI, 5, .inl topn))] := hD
                  obtain ⟨x15, ex15⟩ : ∃ y : Int32, y = (v8 + (-1 : Int32)) := ⟨_, rfl⟩
                  have h := dm_lu ex15 h
                  refine lv_iinc (v := x15) (lv' := [(3, .int x15), (0, .ref th), (1, .int p0), (2, .int p1)]) hx hb dX4_put_122 hl (k := 0) rfl (by rw [ex15]; rfl) (by decide) rfl (fun ls hl => ?_)
                  refine lv_goto (tgt := 88) hx hb dX4_put_125 (by decide) ?_
                  exact ih88 x15 x14 (upd v10 (v9).toNatClampNeg (vp_nar .char x12)) H _ ls h (hP.sub [0, 1, 2, 3, 4, 5, 6] rfl) (hD.sub [0, 1, 2, 3, 4, 5, 6] (by decide) rfl) hS (lv_sub hl [0, 1, 2, 3] rfl)
            exact L88 100000 x7 tlet twd H _ ls h hP hD hS hl
          · have h := dm_f hc6 h
            refine lv_iload_n hx hb dX4_put_34 rfl (lv_at hl 2 rfl) ?_
            refine lv_bipush (v := 8) hx hb dX4_put_35 (by decide) ?_
            refine lv_iload_n hx hb dX4_put_37 rfl (lv_at hl 0 rfl) ?_
            refine lv_imul hx hb dX4_put_38 ?_
            refine lv_ishr hx hb dX4_put_39 ?_
            refine lv_sipush (v := 255) hx hb dX4_put_40 (by decide) ?_
            refine lv_iand hx hb dX4_put_43 ?_
            refine lv_topi (fun x16 ex16 => ?_)
            have h := dm_lu ex16 h
            refine lv_istore (lv' := [(4, .int x16), (3, .int v5), (0, .ref th), (1, .int p0), (2, .int p1)]) hx hb dX4_put_44 hl (by decide) rfl (fun ls hl => ?_)
            refine lv_iload hx hb dX4_put_46 (lv_at hl 0 rfl) ?_
            obtain ⟨r17, hk18, h⟩ := dm_b1s h
            refine mc_i (wr := [(th, .inr (4, [.int (0 : Int32), .int tdd, .int tn, .ref tqA, .ref tqB, .ref tqC, .long ta, .long tb, .long tc, .long tp, .long tq, .long tr, .long ts, .int tsome, .ref tqL, .int tlet, .ref tqW, .ref tqO])), (tqA, .inl (cyJ, 40, .inr (.inl tla))), (tqB, .inl (cyJ, 40, .inr (.inl tlb))), (tqC, .inl (cyJ, 40, .inr (.inl tlc))), (tqL, .inl (cyJ, 7, .inr (.inl tlast))), (tqW, .inl (cyC, 40, .inl twd)), (tqO, .inl (cyI, 5, .inl topn))]) (va_runS (As := [.int x16]) (rest := []) ⟨hx, hb, hml, hown, hts⟩ (c_X4_isLetter l dC dI cyI cyJ cyC H.size x16 r17 hk18) (va_cwS 1 hts gX4_put_X4_isLetter rfl rfl rfl (by decide +kernel) ⟨(Nat.le_of_ble_eq_true rfl), (Nat.le_of_ble_eq_true rfl)⟩) (mc_preS hK (hP.sub (ws' := []) [] rfl) (hD.sub (ws' := []) [] (by decide) rfl) hnw) rfl rfl hl.1 rfl (lv_room (Nat.le_of_ble_eq_true rfl)) dX4_put_48 ⟨Nat.zero_le _, Nat.zero_le _⟩) hP hD hS hA [] [0, 1, 2, 3, 4, 5, 6] rfl rfl rfl (by decide) (fun H locs hP hD hS => ?_)
            have hP : va_P (dC, dI) vwCl [(th, .inr (4, [.int (0 : Int32), .int tdd, .int tn, .ref tqA, .ref tqB, .ref tqC, .long ta, .long tb, .long tc, .long tp, .long tq, .long tr, .long ts, .int tsome, .ref tqL, .int tlet, .ref tqW, .ref tqO])), (tqA, .inl (cyJ, 40, .inr (.inl tla))), (tqB, .inl (cyJ, 40, .inr (.inl tlb))), (tqC, .inl (cyJ, 40, .inr (.inl tlc))), (tqL, .inl (cyJ, 7, .inr (.inl tlast))), (tqW, .inl (cyC, 40, .inl twd)), (tqO, .inl (cyI, 5, .inl topn))] H := hP
            have hD : va_D A [(th, .inr (4, [.int (0 : Int32), .int tdd, .int tn, .ref tqA, .ref tqB, .ref tqC, .long ta, .long tb, .long tc, .long tp, .long tq, .long tr, .long ts, .int tsome, .ref tqL, .int tlet, .ref tqW, .ref tqO])), (tqA, .inl (cyJ, 40, .inr (.inl tla))), (tqB, .inl (cyJ, 40, .inr (.inl tlb))), (tqC, .inl (cyJ, 40, .inr (.inl tlc))), (tqL, .inl (cyJ, 7, .inr (.inl tlast))), (tqW, .inl (cyC, 40, .inl twd)), (tqO, .inl (cyI, 5, .inl topn))] := hD
            refine lv_if_ne (tgt := 78) hx hb dX4_put_51 (by decide) (fun hc19 => ?_) (fun hc19 => ?_)
            · have h := dm_f hc19 h
              obtain ⟨x20, ex20⟩ : ∃ y : Int32, y = (v5 + (1 : Int32)) := ⟨_, rfl⟩
              have h := dm_lu ex20 h
              refine lv_iinc (v := x20) (lv' := [(3, .int x20), (4, .int x16), (0, .ref th), (1, .int p0), (2, .int p1)]) hx hb dX4_put_78 hl (k := 1) rfl (by rw [ex20]; rfl) (by decide) rfl (fun ls hl => ?_)
              refine lv_goto (tgt := 29) hx hb dX4_put_81 (by decide) ?_
              exact ih29 x20 H _ ls h (hP.sub [0, 1, 2, 3, 4, 5, 6] rfl) (hD.sub [0, 1, 2, 3, 4, 5, 6] (by decide) rfl) hS (lv_sub hl [0, 2, 3, 4] rfl)
            · have h := dm_t hc19 h
              refine lv_iload hx hb dX4_put_54 (lv_at hl 0 rfl) ?_
              obtain ⟨r21, hk22, h⟩ := dm_b1s h
              refine mc_i (wr := [(th, .inr (4, [.int (0 : Int32), .int tdd, .int tn, .ref tqA, .ref tqB, .ref tqC, .long ta, .long tb, .long tc, .long tp, .long tq, .long tr, .long ts, .int tsome, .ref tqL, .int tlet, .ref tqW, .ref tqO])), (tqA, .inl (cyJ, 40, .inr (.inl tla))), (tqB, .inl (cyJ, 40, .inr (.inl tlb))), (tqC, .inl (cyJ, 40, .inr (.inl tlc))), (tqL, .inl (cyJ, 7, .inr (.inl tlast))), (tqW, .inl (cyC, 40, .inl twd)), (tqO, .inl (cyI, 5, .inl topn))]) (va_runS (As := [.int x16]) (rest := []) ⟨hx, hb, hml, hown, hts⟩ (c_X4_isDigit l dC dI cyI cyJ cyC H.size x16 r21 hk22) (va_cwS 1 hts gX4_put_X4_isDigit rfl rfl rfl (by decide +kernel) ⟨(Nat.le_of_ble_eq_true rfl), (Nat.le_of_ble_eq_true rfl)⟩) (mc_preS hK (hP.sub (ws' := []) [] rfl) (hD.sub (ws' := []) [] (by decide) rfl) hnw) rfl rfl hl.1 rfl (lv_room (Nat.le_of_ble_eq_true rfl)) dX4_put_56 ⟨Nat.zero_le _, Nat.zero_le _⟩) hP hD hS hA [] [0, 1, 2, 3, 4, 5, 6] rfl rfl rfl (by decide) (fun H locs hP hD hS => ?_)
              have hP : va_P (dC, dI) vwCl [(th, .inr (4, [.int (0 : Int32), .int tdd, .int tn, .ref tqA, .ref tqB, .ref tqC, .long ta, .long tb, .long tc, .long tp, .long tq, .long tr, .long ts, .int tsome, .ref tqL, .int tlet, .ref tqW, .ref tqO])), (tqA, .inl (cyJ, 40, .inr (.inl tla))), (tqB, .inl (cyJ, 40, .inr (.inl tlb))), (tqC, .inl (cyJ, 40, .inr (.inl tlc))), (tqL, .inl (cyJ, 7, .inr (.inl tlast))), (tqW, .inl (cyC, 40, .inl twd)), (tqO, .inl (cyI, 5, .inl topn))] H := hP
              have hD : va_D A [(th, .inr (4, [.int (0 : Int32), .int tdd, .int tn, .ref tqA, .ref tqB, .ref tqC, .long ta, .long tb, .long tc, .long tp, .long tq, .long tr, .long ts, .int tsome, .ref tqL, .int tlet, .ref tqW, .ref tqO])), (tqA, .inl (cyJ, 40, .inr (.inl tla))), (tqB, .inl (cyJ, 40, .inr (.inl tlb))), (tqC, .inl (cyJ, 40, .inr (.inl tlc))), (tqL, .inl (cyJ, 7, .inr (.inl tlast))), (tqW, .inl (cyC, 40, .inl twd)), (tqO, .inl (cyI, 5, .inl topn))] := hD
              refine lv_if_ne (tgt := 78) hx hb dX4_put_59 (by decide) (fun hc23 => ?_) (fun hc23 => ?_)
              · have h := dm_f hc23 h
                obtain ⟨x24, ex24⟩ : ∃ y : Int32, y = (v5 + (1 : Int32)) := ⟨_, rfl⟩
                have h := dm_lu ex24 h
                refine lv_iinc (v := x24) (lv' := [(3, .int x24), (4, .int x16), (0, .ref th), (1, .int p0), (2, .int p1)]) hx hb dX4_put_78 hl (k := 1) rfl (by rw [ex24]; rfl) (by decide) rfl (fun ls hl => ?_)
                refine lv_goto (tgt := 29) hx hb dX4_put_81 (by decide) ?_
                exact ih29 x24 H _ ls h (hP.sub [0, 1, 2, 3, 4, 5, 6] rfl) (hD.sub [0, 1, 2, 3, 4, 5, 6] (by decide) rfl) hS (lv_sub hl [0, 2, 3, 4] rfl)
              · have h := dm_t hc23 h
                refine lv_iload hx hb dX4_put_62 (lv_at hl 0 rfl) ?_
                refine lv_bipush (v := 40) hx hb dX4_put_64 (by decide) ?_
                refine lv_icmp_eq (tgt := 78) hx hb dX4_put_66 (by decide) (fun hc25 => ?_) (fun hc25 => ?_)
                · have h := dm_t hc25 h
                  obtain ⟨x26, ex26⟩ : ∃ y : Int32, y = (v5 + (1 : Int32)) := ⟨_, rfl⟩
                  have h := dm_lu ex26 h
                  refine lv_iinc (v := x26) (lv' := [(3, .int x26), (4, .int x16), (0, .ref th), (1, .int p0), (2, .int p1)]) hx hb dX4_put_78 hl (k := 1) rfl (by rw [ex26]; rfl) (by decide) rfl (fun ls hl => ?_)
                  refine lv_goto (tgt := 29) hx hb dX4_put_81 (by decide) ?_
                  exact ih29 x26 H _ ls h (hP.sub [0, 1, 2, 3, 4, 5, 6] rfl) (hD.sub [0, 1, 2, 3, 4, 5, 6] (by decide) rfl) hS (lv_sub hl [0, 2, 3, 4] rfl)
                · have h := dm_f hc25 h
                  refine lv_iload hx hb dX4_put_69 (lv_at hl 0 rfl) ?_
                  refine lv_bipush (v := 41) hx hb dX4_put_71 (by decide) ?_
                  refine lv_icmp_eq (tgt := 78) hx hb dX4_put_73 (by decide) (fun hc27 => ?_) (fun hc27 => ?_)
                  · have h := dm_t hc27 h
                    obtain ⟨x28, ex28⟩ : ∃ y : Int32, y = (v5 + (1 : Int32)) := ⟨_, rfl⟩
                    have h := dm_lu ex28 h
                    refine lv_iinc (v := x28) (lv' := [(3, .int x28), (4, .int x16), (0, .ref th), (1, .int p0), (2, .int p1)]) hx hb dX4_put_78 hl (k := 1) rfl (by rw [ex28]; rfl) (by decide) rfl (fun ls hl => ?_)
                    refine lv_goto (tgt := 29) hx hb dX4_put_81 (by decide) ?_
                    exact ih29 x28 H _ ls h (hP.sub [0, 1, 2, 3, 4, 5, 6] rfl) (hD.sub [0, 1, 2, 3, 4, 5, 6] (by decide) rfl) hS (lv_sub hl [0, 2, 3, 4] rfl)
                  · have h := dm_f hc27 h
                    refine lv_iconst (v := 0) hx hb dX4_put_76 (by decide) ?_
                    obtain ⟨hE0, hE1, hE2, hE3⟩ := dm_i4 h
                    subst hE0; subst hE1; subst hE2; subst hE3
                    rw [hQQ]
                    have hP9 := hP.sub (ws' := [(th, .inr (4, [.int (0 : Int32), .int tdd, .int tn, .ref tqA, .ref tqB, .ref tqC, .long ta, .long tb, .long tc, .long tp, .long tq, .long tr, .long ts, .int tsome, .ref tqL, .int tlet, .ref tqW, .ref tqO])), (tqA, .inl (cyJ, 40, .inr (.inl tla))), (tqB, .inl (cyJ, 40, .inr (.inl tlb))), (tqC, .inl (cyJ, 40, .inr (.inl tlc))), (tqL, .inl (cyJ, 7, .inr (.inl tlast))), (tqW, .inl (cyC, 40, .inl twd)), (tqO, .inl (cyI, 5, .inl topn))]) [0, 1, 2, 3, 4, 5, 6] rfl
                    have hD9 := hD.sub (ws' := [(th, .inr (4, [.int (0 : Int32), .int tdd, .int tn, .ref tqA, .ref tqB, .ref tqC, .long ta, .long tb, .long tc, .long tp, .long tq, .long tr, .long ts, .int tsome, .ref tqL, .int tlet, .ref tqW, .ref tqO])), (tqA, .inl (cyJ, 40, .inr (.inl tla))), (tqB, .inl (cyJ, 40, .inr (.inl tlb))), (tqC, .inl (cyJ, 40, .inr (.inl tlc))), (tqL, .inl (cyJ, 7, .inr (.inl tlast))), (tqW, .inl (cyC, 40, .inl twd)), (tqO, .inl (cyI, 5, .inl topn))]) [0, 1, 2, 3, 4, 5, 6] (by decide) rfl
                    exact W.zret (v := (0 : Int32)) hx hb hr rfl (fun t ht hW => ⟨⟨(0 : Int32), (), rfl, rfl, by rw [ht]; exact hP9, hD9⟩, hS.F ht⟩) hS.2.2 dX4_put_77
      exact L29 100000 (0 : Int32) H _ ls h hP hD hS hl
    · have h := dm_f hc4 h
      refine lv_iconst (v := 0) hx hb dX4_put_25 (by decide) ?_
      obtain ⟨hE0, hE1, hE2, hE3⟩ := dm_i4 h
      subst hE0; subst hE1; subst hE2; subst hE3
      rw [hQQ]
      have hP9 := hP.sub (ws' := [(th, .inr (4, [.int (0 : Int32), .int tdd, .int tn, .ref tqA, .ref tqB, .ref tqC, .long ta, .long tb, .long tc, .long tp, .long tq, .long tr, .long ts, .int tsome, .ref tqL, .int tlet, .ref tqW, .ref tqO])), (tqA, .inl (cyJ, 40, .inr (.inl tla))), (tqB, .inl (cyJ, 40, .inr (.inl tlb))), (tqC, .inl (cyJ, 40, .inr (.inl tlc))), (tqL, .inl (cyJ, 7, .inr (.inl tlast))), (tqW, .inl (cyC, 40, .inl twd)), (tqO, .inl (cyI, 5, .inl topn))]) [0, 1, 2, 3, 4, 5, 6] rfl
      have hD9 := hD.sub (ws' := [(th, .inr (4, [.int (0 : Int32), .int tdd, .int tn, .ref tqA, .ref tqB, .ref tqC, .long ta, .long tb, .long tc, .long tp, .long tq, .long tr, .long ts, .int tsome, .ref tqL, .int tlet, .ref tqW, .ref tqO])), (tqA, .inl (cyJ, 40, .inr (.inl tla))), (tqB, .inl (cyJ, 40, .inr (.inl tlb))), (tqC, .inl (cyJ, 40, .inr (.inl tlc))), (tqL, .inl (cyJ, 7, .inr (.inl tlast))), (tqW, .inl (cyC, 40, .inl twd)), (tqO, .inl (cyI, 5, .inl topn))]) [0, 1, 2, 3, 4, 5, 6] (by decide) rfl
      exact W.zret (v := (0 : Int32)) hx hb hr rfl (fun t ht hW => ⟨⟨(0 : Int32), (), rfl, rfl, by rw [ht]; exact hP9, hD9⟩, hS.F ht⟩) hS.2.2 dX4_put_26

def f_X4_clear  : Option (Int32 × Int32) :=
  some ((0 : Int32), (0 : Int32))
set_option maxHeartbeats 4000000 in
set_option maxRecDepth 100000 in
theorem c_X4_clear (l : Launch) (dC : Nat → ClassId) (dI : Nat → Nat → Nat) (cyI cyJ cyC : ClassId) (th tqA tqB tqC tqL tqW tqO : Nat) (sz : Nat) (tthr : Int32) (tdd : Int32) (tn : Int32) (tla : Nat → Int64) (tlb : Nat → Int64) (tlc : Nat → Int64) (ta : Int64) (tb : Int64) (tc : Int64) (tp : Int64) (tq : Int64) (tr : Int64) (ts : Int64) (tsome : Int32) (tlast : Nat → Int64) (tlet : Int32) (twd : Nat → Int32) (topn : Nat → Int32)  (tthr' : Int32) (tlet' : Int32) (hf : f_X4_clear = some (tthr', tlet')) : Met l yX4_clear wsX4_clear { frames := 0, cells := 0, slots := 0, locals := 0 } (va_Pc [.ref th] (mc_Pre (dC, dI) (mc_tys cyI cyJ cyC) [(th, .inr (4, [.int tthr, .int tdd, .int tn, .ref tqA, .ref tqB, .ref tqC, .long ta, .long tb, .long tc, .long tp, .long tq, .long tr, .long ts, .int tsome, .ref tqL, .int tlet, .ref tqW, .ref tqO])), (tqA, .inl (cyJ, 40, .inr (.inl tla))), (tqB, .inl (cyJ, 40, .inr (.inl tlb))), (tqC, .inl (cyJ, 40, .inr (.inl tlc))), (tqL, .inl (cyJ, 7, .inr (.inl tlast))), (tqW, .inl (cyC, 40, .inl twd)), (tqO, .inl (cyI, 5, .inl topn))] sz)) (va_Qv (fun _ : Unit => True) (fun _ t => mc_Post (dC, dI) (va_A [(th, .inr (4, [.int tthr, .int tdd, .int tn, .ref tqA, .ref tqB, .ref tqC, .long ta, .long tb, .long tc, .long tp, .long tq, .long tr, .long ts, .int tsome, .ref tqL, .int tlet, .ref tqW, .ref tqO])), (tqA, .inl (cyJ, 40, .inr (.inl tla))), (tqB, .inl (cyJ, 40, .inr (.inl tlb))), (tqC, .inl (cyJ, 40, .inr (.inl tlc))), (tqL, .inl (cyJ, 7, .inr (.inl tlast))), (tqW, .inl (cyC, 40, .inl twd)), (tqO, .inl (cyI, 5, .inl topn))] sz) [(th, .inr (4, [.int tthr', .int tdd, .int tn, .ref tqA, .ref tqB, .ref tqC, .long ta, .long tb, .long tc, .long tp, .long tq, .long tr, .long ts, .int tsome, .ref tqL, .int tlet', .ref tqW, .ref tqO])), (tqA, .inl (cyJ, 40, .inr (.inl tla))), (tqB, .inl (cyJ, 40, .inr (.inl tlb))), (tqC, .inl (cyJ, 40, .inr (.inl tlc))), (tqL, .inl (cyJ, 7, .inr (.inl tlast))), (tqW, .inl (cyC, 40, .inl twd)), (tqO, .inl (cyI, 5, .inl topn))] t) (va_A [(th, .inr (4, [.int tthr, .int tdd, .int tn, .ref tqA, .ref tqB, .ref tqC, .long ta, .long tb, .long tc, .long tp, .long tq, .long tr, .long ts, .int tsome, .ref tqL, .int tlet, .ref tqW, .ref tqO])), (tqA, .inl (cyJ, 40, .inr (.inl tla))), (tqB, .inl (cyJ, 40, .inr (.inl tlb))), (tqC, .inl (cyJ, 40, .inr (.inl tlc))), (tqL, .inl (cyJ, 7, .inr (.inl tlast))), (tqW, .inl (cyC, 40, .inl twd)), (tqO, .inl (cyI, 5, .inl topn))] sz)) 0 0 (va_A [(th, .inr (4, [.int tthr, .int tdd, .int tn, .ref tqA, .ref tqB, .ref tqC, .long ta, .long tb, .long tc, .long tp, .long tq, .long tr, .long ts, .int tsome, .ref tqL, .int tlet, .ref tqW, .ref tqO])), (tqA, .inl (cyJ, 40, .inr (.inl tla))), (tqB, .inl (cyJ, 40, .inr (.inl tlb))), (tqC, .inl (cyJ, 40, .inr (.inl tlc))), (tqL, .inl (cyJ, 7, .inr (.inl tlast))), (tqW, .inl (cyC, 40, .inl twd)), (tqO, .inl (cyI, 5, .inl topn))] sz) := by
  refine Met.ofW (cc := cX4_clear) (maxL := 1) (ret := none) (by decide +kernel) rfl ?_
  intro p e s m args below meth c s₁ B hml hv
  obtain ⟨rfl, hsz, hP, hK, hD0, hnw⟩ := hv
  have hx := B.exec
  have hb := B.bytes
  have hr := B.returns
  have hts := atoms_spec (ws := wsX4_clear) B.pre
  have hown : s.vm.findClass RX4 = some m.cls := findClass_of_methodNamed B.named
  have hlocks := B.notSynchronized
  have hinX4 : ∀ w ∈ wsX40, w ∈ wsX4_clear := by decide +kernel
  subst hsz
  have hD := hD0.self (sz := s.heap.size)
  generalize hAe : va_A [(th, .inr (4, [.int tthr, .int tdd, .int tn, .ref tqA, .ref tqB, .ref tqC, .long ta, .long tb, .long tc, .long tp, .long tq, .long tr, .long ts, .int tsome, .ref tqL, .int tlet, .ref tqW, .ref tqO])), (tqA, .inl (cyJ, 40, .inr (.inl tla))), (tqB, .inl (cyJ, 40, .inr (.inl tlb))), (tqC, .inl (cyJ, 40, .inr (.inl tlc))), (tqL, .inl (cyJ, 7, .inr (.inl tlast))), (tqW, .inl (cyC, 40, .inl twd)), (tqO, .inl (cyI, 5, .inl topn))] s.heap.size = A at hD ⊢
  have hA : ∀ q : Nat, s.heap.size ≤ q → A q := fun q h => by rw [← hAe]; exact Or.inr h
  have hS : va_S A s.heap s.heap [] := va_S.rf
  have hP : va_P (dC, dI) vwCl [(th, .inr (4, [.int tthr, .int tdd, .int tn, .ref tqA, .ref tqB, .ref tqC, .long ta, .long tb, .long tc, .long tp, .long tq, .long tr, .long ts, .int tsome, .ref tqL, .int tlet, .ref tqW, .ref tqO])), (tqA, .inl (cyJ, 40, .inr (.inl tla))), (tqB, .inl (cyJ, 40, .inr (.inl tlb))), (tqC, .inl (cyJ, 40, .inr (.inl tlc))), (tqL, .inl (cyJ, 7, .inr (.inl tlast))), (tqW, .inl (cyC, 40, .inl twd)), (tqO, .inl (cyI, 5, .inl topn))] s.heap := hP
  have hl := lv_entry ([.ref th]) (n := 1) (Nat.le_of_ble_eq_true rfl)
  rw [lg_entry_eq]
  generalize (lg_sl ([.ref th]) ++ List.replicate (1 - (lg_sl ([.ref th])).length) Slot.unset).toArray = ls at hl ⊢
  have hl : lv_has ls 1 [(0, .ref th)] := hl
  obtain ⟨QQ, hQQ⟩ : ∃ Q, Q = MQ below (va_Qv (fun _ : Unit => True) (fun _ t => mc_Post (dC, dI) A [(th, .inr (4, [.int tthr', .int tdd, .int tn, .ref tqA, .ref tqB, .ref tqC, .long ta, .long tb, .long tc, .long tp, .long tq, .long tr, .long ts, .int tsome, .ref tqL, .int tlet', .ref tqW, .ref tqO])), (tqA, .inl (cyJ, 40, .inr (.inl tla))), (tqB, .inl (cyJ, 40, .inr (.inl tlb))), (tqC, .inl (cyJ, 40, .inr (.inl tlc))), (tqL, .inl (cyJ, 7, .inr (.inl tlast))), (tqW, .inl (cyC, 40, .inl twd)), (tqO, .inl (cyI, 5, .inl topn))] t) A) ([Value.ref th] : List Value).toArray s 0 0 A := ⟨_, rfl⟩
  rw [← hQQ]
  have h := hf
  unfold f_X4_clear at h
  refine lv_aload_n hx hb dX4_clear_0 rfl (lv_at hl 0 rfl) ?_
  refine lv_iconst (v := 0) hx hb dX4_clear_1 (by decide) ?_
  refine va_put (D := (dC, dI)) (ci := 4) (v := .int (0 : Int32)) (ty := .int) (C := RX4) (T := TX4) (N := 18) hx hb hts hinX4 tyX4 tyX4_ok nmX4 hown hK hP hD hS 0 rfl rfl 0 (by decide) (hts (.fieldLink RX4 38 "FormDeskModel" "thrown" "I") (by decide +kernel)) (fun _ h9 => h9) rfl (by decide +kernel) rfl rfl (Nat.le_of_ble_eq_true rfl) dX4_clear_2 (fun H locs hP hD hS => ?_)
  have hP : va_P (dC, dI) vwCl [(th, .inr (4, [.int (0 : Int32), .int tdd, .int tn, .ref tqA, .ref tqB, .ref tqC, .long ta, .long tb, .long tc, .long tp, .long tq, .long tr, .long ts, .int tsome, .ref tqL, .int tlet, .ref tqW, .ref tqO])), (tqA, .inl (cyJ, 40, .inr (.inl tla))), (tqB, .inl (cyJ, 40, .inr (.inl tlb))), (tqC, .inl (cyJ, 40, .inr (.inl tlc))), (tqL, .inl (cyJ, 7, .inr (.inl tlast))), (tqW, .inl (cyC, 40, .inl twd)), (tqO, .inl (cyI, 5, .inl topn))] H := hP
  have hD : va_D A [(th, .inr (4, [.int (0 : Int32), .int tdd, .int tn, .ref tqA, .ref tqB, .ref tqC, .long ta, .long tb, .long tc, .long tp, .long tq, .long tr, .long ts, .int tsome, .ref tqL, .int tlet, .ref tqW, .ref tqO])), (tqA, .inl (cyJ, 40, .inr (.inl tla))), (tqB, .inl (cyJ, 40, .inr (.inl tlb))), (tqC, .inl (cyJ, 40, .inr (.inl tlc))), (tqL, .inl (cyJ, 7, .inr (.inl tlast))), (tqW, .inl (cyC, 40, .inl twd)), (tqO, .inl (cyI, 5, .inl topn))] := hD
  refine lv_aload_n hx hb dX4_clear_5 rfl (lv_at hl 0 rfl) ?_
  refine lv_iconst (v := 0) hx hb dX4_clear_6 (by decide) ?_
  refine va_put (D := (dC, dI)) (ci := 4) (v := .int (0 : Int32)) (ty := .int) (C := RX4) (T := TX4) (N := 18) hx hb hts hinX4 tyX4 tyX4_ok nmX4 hown hK hP hD hS 0 rfl rfl 15 (by decide) (hts (.fieldLink RX4 163 "FormDeskModel" "letters" "I") (by decide +kernel)) (fun _ h9 => h9) rfl (by decide +kernel) rfl rfl (Nat.le_of_ble_eq_true rfl) dX4_clear_7 (fun H locs hP hD hS => ?_)
  have hP : va_P (dC, dI) vwCl [(th, .inr (4, [.int (0 : Int32), .int tdd, .int tn, .ref tqA, .ref tqB, .ref tqC, .long ta, .long tb, .long tc, .long tp, .long tq, .long tr, .long ts, .int tsome, .ref tqL, .int (0 : Int32), .ref tqW, .ref tqO])), (tqA, .inl (cyJ, 40, .inr (.inl tla))), (tqB, .inl (cyJ, 40, .inr (.inl tlb))), (tqC, .inl (cyJ, 40, .inr (.inl tlc))), (tqL, .inl (cyJ, 7, .inr (.inl tlast))), (tqW, .inl (cyC, 40, .inl twd)), (tqO, .inl (cyI, 5, .inl topn))] H := hP
  have hD : va_D A [(th, .inr (4, [.int (0 : Int32), .int tdd, .int tn, .ref tqA, .ref tqB, .ref tqC, .long ta, .long tb, .long tc, .long tp, .long tq, .long tr, .long ts, .int tsome, .ref tqL, .int (0 : Int32), .ref tqW, .ref tqO])), (tqA, .inl (cyJ, 40, .inr (.inl tla))), (tqB, .inl (cyJ, 40, .inr (.inl tlb))), (tqC, .inl (cyJ, 40, .inr (.inl tlc))), (tqL, .inl (cyJ, 7, .inr (.inl tlast))), (tqW, .inl (cyC, 40, .inl twd)), (tqO, .inl (cyI, 5, .inl topn))] := hD
  obtain ⟨hE0, hE1⟩ := dm_i2 h
  subst hE0; subst hE1
  rw [hQQ]
  have hP9 := hP.sub (ws' := [(th, .inr (4, [.int (0 : Int32), .int tdd, .int tn, .ref tqA, .ref tqB, .ref tqC, .long ta, .long tb, .long tc, .long tp, .long tq, .long tr, .long ts, .int tsome, .ref tqL, .int (0 : Int32), .ref tqW, .ref tqO])), (tqA, .inl (cyJ, 40, .inr (.inl tla))), (tqB, .inl (cyJ, 40, .inr (.inl tlb))), (tqC, .inl (cyJ, 40, .inr (.inl tlc))), (tqL, .inl (cyJ, 7, .inr (.inl tlast))), (tqW, .inl (cyC, 40, .inl twd)), (tqO, .inl (cyI, 5, .inl topn))]) [0, 1, 2, 3, 4, 5, 6] rfl
  have hD9 := hD.sub (ws' := [(th, .inr (4, [.int (0 : Int32), .int tdd, .int tn, .ref tqA, .ref tqB, .ref tqC, .long ta, .long tb, .long tc, .long tp, .long tq, .long tr, .long ts, .int tsome, .ref tqL, .int (0 : Int32), .ref tqW, .ref tqO])), (tqA, .inl (cyJ, 40, .inr (.inl tla))), (tqB, .inl (cyJ, 40, .inr (.inl tlb))), (tqC, .inl (cyJ, 40, .inr (.inl tlc))), (tqL, .inl (cyJ, 7, .inr (.inl tlast))), (tqW, .inl (cyC, 40, .inl twd)), (tqO, .inl (cyI, 5, .inl topn))]) [0, 1, 2, 3, 4, 5, 6] (by decide) rfl
  exact W.vret hx hb hr (fun t ht hW => ⟨⟨(), rfl, trivial, by rw [ht]; exact hP9, hD9⟩, hS.F ht⟩) hS.2.2 dX4_clear_10

def f_X4_join (tdd : Int32) (tn : Int32) (tla : Nat → Int64) (tlb : Nat → Int64) (tlc : Nat → Int64) (ta : Int64) (tb : Int64) (tc : Int64) (tp : Int64) (tq : Int64) (tr : Int64) (ts : Int64) (topn : Nat → Int32) (p0 : Int32) (p1 : Int32) : Option (Int64 × Int64 × Int64 × Int64 × Int64 × Int64 × Int64 × (Nat → Int32)) :=
  if p1 = (-1 : Int32) then
    some (ta, tb, tc, tp, tq, tr, ts, topn)
  else
    dm_g (¬ (p0 < 0 ∨ 5 ≤ (p0).toNatClampNeg)) <|
    dm_b8 (f_X4_product tdd tn tla tlb tlc ta tb tc tp tq tr ts (topn (p0).toNatClampNeg) p1) fun r3 w4 w5 w6 w7 w8 w9 w10 =>
    dm_g (¬ (p0 < 0 ∨ 5 ≤ (p0).toNatClampNeg)) <|
    some (w4, w5, w6, w7, w8, w9, w10, (upd topn (p0).toNatClampNeg r3))
set_option maxHeartbeats 4000000 in
set_option maxRecDepth 100000 in
theorem c_X4_join (l : Launch) (dC : Nat → ClassId) (dI : Nat → Nat → Nat) (cyI cyJ cyC : ClassId) (th tqA tqB tqC tqL tqW tqO : Nat) (sz : Nat) (tthr : Int32) (tdd : Int32) (tn : Int32) (tla : Nat → Int64) (tlb : Nat → Int64) (tlc : Nat → Int64) (ta : Int64) (tb : Int64) (tc : Int64) (tp : Int64) (tq : Int64) (tr : Int64) (ts : Int64) (tsome : Int32) (tlast : Nat → Int64) (tlet : Int32) (twd : Nat → Int32) (topn : Nat → Int32) (p0 : Int32) (p1 : Int32) (ta' : Int64) (tb' : Int64) (tc' : Int64) (tp' : Int64) (tq' : Int64) (tr' : Int64) (ts' : Int64) (topn' : Nat → Int32) (hf : f_X4_join tdd tn tla tlb tlc ta tb tc tp tq tr ts topn p0 p1 = some (ta', tb', tc', tp', tq', tr', ts', topn')) : Met l yX4_join wsX4_join { frames := 4, cells := 0, slots := 0, locals := 120 } (va_Pc [.ref th, .int p0, .int p1] (mc_Pre (dC, dI) (mc_tys cyI cyJ cyC) [(th, .inr (4, [.int tthr, .int tdd, .int tn, .ref tqA, .ref tqB, .ref tqC, .long ta, .long tb, .long tc, .long tp, .long tq, .long tr, .long ts, .int tsome, .ref tqL, .int tlet, .ref tqW, .ref tqO])), (tqA, .inl (cyJ, 40, .inr (.inl tla))), (tqB, .inl (cyJ, 40, .inr (.inl tlb))), (tqC, .inl (cyJ, 40, .inr (.inl tlc))), (tqL, .inl (cyJ, 7, .inr (.inl tlast))), (tqW, .inl (cyC, 40, .inl twd)), (tqO, .inl (cyI, 5, .inl topn))] sz)) (va_Qv (fun _ : Unit => True) (fun _ t => mc_Post (dC, dI) (va_A [(th, .inr (4, [.int tthr, .int tdd, .int tn, .ref tqA, .ref tqB, .ref tqC, .long ta, .long tb, .long tc, .long tp, .long tq, .long tr, .long ts, .int tsome, .ref tqL, .int tlet, .ref tqW, .ref tqO])), (tqA, .inl (cyJ, 40, .inr (.inl tla))), (tqB, .inl (cyJ, 40, .inr (.inl tlb))), (tqC, .inl (cyJ, 40, .inr (.inl tlc))), (tqL, .inl (cyJ, 7, .inr (.inl tlast))), (tqW, .inl (cyC, 40, .inl twd)), (tqO, .inl (cyI, 5, .inl topn))] sz) [(th, .inr (4, [.int tthr, .int tdd, .int tn, .ref tqA, .ref tqB, .ref tqC, .long ta', .long tb', .long tc', .long tp', .long tq', .long tr', .long ts', .int tsome, .ref tqL, .int tlet, .ref tqW, .ref tqO])), (tqA, .inl (cyJ, 40, .inr (.inl tla))), (tqB, .inl (cyJ, 40, .inr (.inl tlb))), (tqC, .inl (cyJ, 40, .inr (.inl tlc))), (tqL, .inl (cyJ, 7, .inr (.inl tlast))), (tqW, .inl (cyC, 40, .inl twd)), (tqO, .inl (cyI, 5, .inl topn'))] t) (va_A [(th, .inr (4, [.int tthr, .int tdd, .int tn, .ref tqA, .ref tqB, .ref tqC, .long ta, .long tb, .long tc, .long tp, .long tq, .long tr, .long ts, .int tsome, .ref tqL, .int tlet, .ref tqW, .ref tqO])), (tqA, .inl (cyJ, 40, .inr (.inl tla))), (tqB, .inl (cyJ, 40, .inr (.inl tlb))), (tqC, .inl (cyJ, 40, .inr (.inl tlc))), (tqL, .inl (cyJ, 7, .inr (.inl tlast))), (tqW, .inl (cyC, 40, .inl twd)), (tqO, .inl (cyI, 5, .inl topn))] sz)) 0 0 (va_A [(th, .inr (4, [.int tthr, .int tdd, .int tn, .ref tqA, .ref tqB, .ref tqC, .long ta, .long tb, .long tc, .long tp, .long tq, .long tr, .long ts, .int tsome, .ref tqL, .int tlet, .ref tqW, .ref tqO])), (tqA, .inl (cyJ, 40, .inr (.inl tla))), (tqB, .inl (cyJ, 40, .inr (.inl tlb))), (tqC, .inl (cyJ, 40, .inr (.inl tlc))), (tqL, .inl (cyJ, 7, .inr (.inl tlast))), (tqW, .inl (cyC, 40, .inl twd)), (tqO, .inl (cyI, 5, .inl topn))] sz) := by
  refine Met.ofW (cc := cX4_join) (maxL := 3) (ret := none) (by decide +kernel) rfl ?_
  intro p e s m args below meth c s₁ B hml hv
  obtain ⟨rfl, hsz, hP, hK, hD0, hnw⟩ := hv
  have hx := B.exec
  have hb := B.bytes
  have hr := B.returns
  have hts := atoms_spec (ws := wsX4_join) B.pre
  have hown : s.vm.findClass RX4 = some m.cls := findClass_of_methodNamed B.named
  have hlocks := B.notSynchronized
  have hinX4 : ∀ w ∈ wsX40, w ∈ wsX4_join := by decide +kernel
  subst hsz
  have hD := hD0.self (sz := s.heap.size)
  generalize hAe : va_A [(th, .inr (4, [.int tthr, .int tdd, .int tn, .ref tqA, .ref tqB, .ref tqC, .long ta, .long tb, .long tc, .long tp, .long tq, .long tr, .long ts, .int tsome, .ref tqL, .int tlet, .ref tqW, .ref tqO])), (tqA, .inl (cyJ, 40, .inr (.inl tla))), (tqB, .inl (cyJ, 40, .inr (.inl tlb))), (tqC, .inl (cyJ, 40, .inr (.inl tlc))), (tqL, .inl (cyJ, 7, .inr (.inl tlast))), (tqW, .inl (cyC, 40, .inl twd)), (tqO, .inl (cyI, 5, .inl topn))] s.heap.size = A at hD ⊢
  have hA : ∀ q : Nat, s.heap.size ≤ q → A q := fun q h => by rw [← hAe]; exact Or.inr h
  have hS : va_S A s.heap s.heap [] := va_S.rf
  have hP : va_P (dC, dI) vwCl [(th, .inr (4, [.int tthr, .int tdd, .int tn, .ref tqA, .ref tqB, .ref tqC, .long ta, .long tb, .long tc, .long tp, .long tq, .long tr, .long ts, .int tsome, .ref tqL, .int tlet, .ref tqW, .ref tqO])), (tqA, .inl (cyJ, 40, .inr (.inl tla))), (tqB, .inl (cyJ, 40, .inr (.inl tlb))), (tqC, .inl (cyJ, 40, .inr (.inl tlc))), (tqL, .inl (cyJ, 7, .inr (.inl tlast))), (tqW, .inl (cyC, 40, .inl twd)), (tqO, .inl (cyI, 5, .inl topn))] s.heap := hP
  have hl := lv_entry ([.ref th, .int p0, .int p1]) (n := 3) (Nat.le_of_ble_eq_true rfl)
  rw [lg_entry_eq]
  generalize (lg_sl ([.ref th, .int p0, .int p1]) ++ List.replicate (3 - (lg_sl ([.ref th, .int p0, .int p1])).length) Slot.unset).toArray = ls at hl ⊢
  have hl : lv_has ls 3 [(0, .ref th), (1, .int p0), (2, .int p1)] := hl
  obtain ⟨QQ, hQQ⟩ : ∃ Q, Q = MQ below (va_Qv (fun _ : Unit => True) (fun _ t => mc_Post (dC, dI) A [(th, .inr (4, [.int tthr, .int tdd, .int tn, .ref tqA, .ref tqB, .ref tqC, .long ta', .long tb', .long tc', .long tp', .long tq', .long tr', .long ts', .int tsome, .ref tqL, .int tlet, .ref tqW, .ref tqO])), (tqA, .inl (cyJ, 40, .inr (.inl tla))), (tqB, .inl (cyJ, 40, .inr (.inl tlb))), (tqC, .inl (cyJ, 40, .inr (.inl tlc))), (tqL, .inl (cyJ, 7, .inr (.inl tlast))), (tqW, .inl (cyC, 40, .inl twd)), (tqO, .inl (cyI, 5, .inl topn'))] t) A) ([Value.ref th, Value.int p0, Value.int p1] : List Value).toArray s 0 0 A := ⟨_, rfl⟩
  rw [← hQQ]
  have h := hf
  unfold f_X4_join at h
  refine lv_iload_n hx hb dX4_join_0 rfl (lv_at hl 2 rfl) ?_
  refine lv_iconst (v := -1) hx hb dX4_join_1 (by decide) ?_
  refine lv_icmp_eq (tgt := 22) hx hb dX4_join_2 (by decide) (fun hc1 => ?_) (fun hc1 => ?_)
  · have h := dm_t hc1 h
    obtain ⟨hE0, hE1, hE2, hE3, hE4, hE5, hE6, hE7⟩ := dm_i8 h
    subst hE0; subst hE1; subst hE2; subst hE3; subst hE4; subst hE5; subst hE6; subst hE7
    rw [hQQ]
    have hP9 := hP.sub (ws' := [(th, .inr (4, [.int tthr, .int tdd, .int tn, .ref tqA, .ref tqB, .ref tqC, .long ta, .long tb, .long tc, .long tp, .long tq, .long tr, .long ts, .int tsome, .ref tqL, .int tlet, .ref tqW, .ref tqO])), (tqA, .inl (cyJ, 40, .inr (.inl tla))), (tqB, .inl (cyJ, 40, .inr (.inl tlb))), (tqC, .inl (cyJ, 40, .inr (.inl tlc))), (tqL, .inl (cyJ, 7, .inr (.inl tlast))), (tqW, .inl (cyC, 40, .inl twd)), (tqO, .inl (cyI, 5, .inl topn))]) [0, 1, 2, 3, 4, 5, 6] rfl
    have hD9 := hD.sub (ws' := [(th, .inr (4, [.int tthr, .int tdd, .int tn, .ref tqA, .ref tqB, .ref tqC, .long ta, .long tb, .long tc, .long tp, .long tq, .long tr, .long ts, .int tsome, .ref tqL, .int tlet, .ref tqW, .ref tqO])), (tqA, .inl (cyJ, 40, .inr (.inl tla))), (tqB, .inl (cyJ, 40, .inr (.inl tlb))), (tqC, .inl (cyJ, 40, .inr (.inl tlc))), (tqL, .inl (cyJ, 7, .inr (.inl tlast))), (tqW, .inl (cyC, 40, .inl twd)), (tqO, .inl (cyI, 5, .inl topn))]) [0, 1, 2, 3, 4, 5, 6] (by decide) rfl
    exact W.vret hx hb hr (fun t ht hW => ⟨⟨(), rfl, trivial, by rw [ht]; exact hP9, hD9⟩, hS.F ht⟩) hS.2.2 dX4_join_22
  · have h := dm_f hc1 h
    refine lv_aload_n hx hb dX4_join_5 rfl (lv_at hl 0 rfl) ?_
    refine va_get (D := (dC, dI)) (ci := 4) (v := .ref tqO) (C := RX4) (T := TX4) (N := 18) hx hb hts hinX4 hown hK hP 0 rfl rfl 17 (by decide) (hts (.fieldLink RX4 30 "FormDeskModel" "open" "[I") (by decide +kernel)) (fun _ h9 => h9) rfl dX4_join_6 ?_
    refine lv_iload_n hx hb dX4_join_9 rfl (lv_at hl 1 rfl) ?_
    refine lv_aload_n hx hb dX4_join_10 rfl (lv_at hl 0 rfl) ?_
    refine lv_aload_n hx hb dX4_join_11 rfl (lv_at hl 0 rfl) ?_
    refine va_get (D := (dC, dI)) (ci := 4) (v := .ref tqO) (C := RX4) (T := TX4) (N := 18) hx hb hts hinX4 hown hK hP 0 rfl rfl 17 (by decide) (hts (.fieldLink RX4 30 "FormDeskModel" "open" "[I") (by decide +kernel)) (fun _ h9 => h9) rfl dX4_join_12 ?_
    refine lv_iload_n hx hb dX4_join_15 rfl (lv_at hl 1 rfl) ?_
    obtain ⟨hn2, h⟩ := dm_gs h
    refine va_iald hx hb hK hP 6 0 rfl rfl hn2 dX4_join_16 ?_
    refine lv_iload_n hx hb dX4_join_17 rfl (lv_at hl 2 rfl) ?_
    obtain ⟨r3, w4, w5, w6, w7, w8, w9, w10, hk11, h⟩ := dm_b8s h
    refine mc_i (wr := []) (va_runV (As := [.int (topn (p0).toNatClampNeg), .int p1]) (rest := [.int p0, .ref tqO]) ⟨hx, hb, hml, hown, hts⟩ (c_X4_product l dC dI cyI cyJ cyC th tqA tqB tqC tqL tqW tqO s.heap.size tthr tdd tn tla tlb tlc ta tb tc tp tq tr ts tsome tlast tlet twd topn (topn (p0).toNatClampNeg) p1 r3 w4 w5 w6 w7 w8 w9 w10 hk11) (cwV 2 hts gX4_join_X4_product rfl rfl rfl (by decide +kernel) ⟨(Nat.le_of_ble_eq_true rfl), (Nat.le_of_ble_eq_true rfl)⟩) (mc_preV hK (hP.sub (ws' := [(th, .inr (4, [.int tthr, .int tdd, .int tn, .ref tqA, .ref tqB, .ref tqC, .long ta, .long tb, .long tc, .long tp, .long tq, .long tr, .long ts, .int tsome, .ref tqL, .int tlet, .ref tqW, .ref tqO])), (tqA, .inl (cyJ, 40, .inr (.inl tla))), (tqB, .inl (cyJ, 40, .inr (.inl tlb))), (tqC, .inl (cyJ, 40, .inr (.inl tlc))), (tqL, .inl (cyJ, 7, .inr (.inl tlast))), (tqW, .inl (cyC, 40, .inl twd)), (tqO, .inl (cyI, 5, .inl topn))]) [0, 1, 2, 3, 4, 5, 6] rfl) (hD.sub (ws' := [(th, .inr (4, [.int tthr, .int tdd, .int tn, .ref tqA, .ref tqB, .ref tqC, .long ta, .long tb, .long tc, .long tp, .long tq, .long tr, .long ts, .int tsome, .ref tqL, .int tlet, .ref tqW, .ref tqO])), (tqA, .inl (cyJ, 40, .inr (.inl tla))), (tqB, .inl (cyJ, 40, .inr (.inl tlb))), (tqC, .inl (cyJ, 40, .inr (.inl tlc))), (tqL, .inl (cyJ, 7, .inr (.inl tlast))), (tqW, .inl (cyC, 40, .inl twd)), (tqO, .inl (cyI, 5, .inl topn))]) [0, 1, 2, 3, 4, 5, 6] (by decide) rfl) hnw rfl rfl) rfl rfl hl.1 rfl (lv_room (Nat.le_of_ble_eq_true rfl)) dX4_join_18 ⟨Nat.zero_le _, Nat.zero_le _⟩) hP hD hS hA [0, 1, 2, 3, 4, 5, 6] [] rfl rfl rfl (by decide) (fun H locs hP hD hS => ?_)
    have hP : va_P (dC, dI) vwCl [(th, .inr (4, [.int tthr, .int tdd, .int tn, .ref tqA, .ref tqB, .ref tqC, .long w4, .long w5, .long w6, .long w7, .long w8, .long w9, .long w10, .int tsome, .ref tqL, .int tlet, .ref tqW, .ref tqO])), (tqA, .inl (cyJ, 40, .inr (.inl tla))), (tqB, .inl (cyJ, 40, .inr (.inl tlb))), (tqC, .inl (cyJ, 40, .inr (.inl tlc))), (tqL, .inl (cyJ, 7, .inr (.inl tlast))), (tqW, .inl (cyC, 40, .inl twd)), (tqO, .inl (cyI, 5, .inl topn))] H := hP
    have hD : va_D A [(th, .inr (4, [.int tthr, .int tdd, .int tn, .ref tqA, .ref tqB, .ref tqC, .long w4, .long w5, .long w6, .long w7, .long w8, .long w9, .long w10, .int tsome, .ref tqL, .int tlet, .ref tqW, .ref tqO])), (tqA, .inl (cyJ, 40, .inr (.inl tla))), (tqB, .inl (cyJ, 40, .inr (.inl tlb))), (tqC, .inl (cyJ, 40, .inr (.inl tlc))), (tqL, .inl (cyJ, 7, .inr (.inl tlast))), (tqW, .inl (cyC, 40, .inl twd)), (tqO, .inl (cyI, 5, .inl topn))] := hD
    obtain ⟨hn12, h⟩ := dm_gs h
    refine va_iast hx hb hK hP hD hS 6 0 rfl rfl hn12 dX4_join_21 (fun H locs hP hD hS => ?_)
    have hP : va_P (dC, dI) vwCl [(th, .inr (4, [.int tthr, .int tdd, .int tn, .ref tqA, .ref tqB, .ref tqC, .long w4, .long w5, .long w6, .long w7, .long w8, .long w9, .long w10, .int tsome, .ref tqL, .int tlet, .ref tqW, .ref tqO])), (tqA, .inl (cyJ, 40, .inr (.inl tla))), (tqB, .inl (cyJ, 40, .inr (.inl tlb))), (tqC, .inl (cyJ, 40, .inr (.inl tlc))), (tqL, .inl (cyJ, 7, .inr (.inl tlast))), (tqW, .inl (cyC, 40, .inl twd)), (tqO, .inl (cyI, 5, .inl (upd topn (p0).toNatClampNeg r3)))] H := hP
    have hD : va_D A [(th, .inr (4, [.int tthr, .int tdd, .int tn, .ref tqA, .ref tqB, .ref tqC, .long w4, .long w5, .long w6, .long w7, .long w8, .long w9, .long w10, .int tsome, .ref tqL, .int tlet, .ref tqW, .ref tqO])), (tqA, .inl (cyJ, 40, .inr (.inl tla))), (tqB, .inl (cyJ, 40, .inr (.inl tlb))), (tqC, .inl (cyJ, 40, .inr (.inl tlc))), (tqL, .inl (cyJ, 7, .inr (.inl tlast))), (tqW, .inl (cyC, 40, .inl twd)), (tqO, .inl (cyI, 5, .inl (upd topn (p0).toNatClampNeg r3)))] := hD
    obtain ⟨hE0, hE1, hE2, hE3, hE4, hE5, hE6, hE7⟩ := dm_i8 h
    subst hE0; subst hE1; subst hE2; subst hE3; subst hE4; subst hE5; subst hE6; subst hE7
    rw [hQQ]
    have hP9 := hP.sub (ws' := [(th, .inr (4, [.int tthr, .int tdd, .int tn, .ref tqA, .ref tqB, .ref tqC, .long w4, .long w5, .long w6, .long w7, .long w8, .long w9, .long w10, .int tsome, .ref tqL, .int tlet, .ref tqW, .ref tqO])), (tqA, .inl (cyJ, 40, .inr (.inl tla))), (tqB, .inl (cyJ, 40, .inr (.inl tlb))), (tqC, .inl (cyJ, 40, .inr (.inl tlc))), (tqL, .inl (cyJ, 7, .inr (.inl tlast))), (tqW, .inl (cyC, 40, .inl twd)), (tqO, .inl (cyI, 5, .inl (upd topn (p0).toNatClampNeg r3)))]) [0, 1, 2, 3, 4, 5, 6] rfl
    have hD9 := hD.sub (ws' := [(th, .inr (4, [.int tthr, .int tdd, .int tn, .ref tqA, .ref tqB, .ref tqC, .long w4, .long w5, .long w6, .long w7, .long w8, .long w9, .long w10, .int tsome, .ref tqL, .int tlet, .ref tqW, .ref tqO])), (tqA, .inl (cyJ, 40, .inr (.inl tla))), (tqB, .inl (cyJ, 40, .inr (.inl tlb))), (tqC, .inl (cyJ, 40, .inr (.inl tlc))), (tqL, .inl (cyJ, 7, .inr (.inl tlast))), (tqW, .inl (cyC, 40, .inl twd)), (tqO, .inl (cyI, 5, .inl (upd topn (p0).toNatClampNeg r3)))]) [0, 1, 2, 3, 4, 5, 6] (by decide) rfl
    exact W.vret hx hb hr (fun t ht hW => ⟨⟨(), rfl, trivial, by rw [ht]; exact hP9, hD9⟩, hS.F ht⟩) hS.2.2 dX4_join_22
