def f_X4_thrown (tthr : Int32) : Option (Int32) :=
  some tthr
set_option maxHeartbeats 4000000 in
set_option maxRecDepth 100000 in
theorem c_X4_thrown (l : Launch) (dC : Nat → ClassId) (dI : Nat → Nat → Nat) (cyI cyJ cyC : ClassId) (th tqA tqB tqC tqL tqW tqO : Nat) (sz : Nat) (tthr : Int32) (tdd : Int32) (tn : Int32) (tla : Nat → Int64) (tlb : Nat → Int64) (tlc : Nat → Int64) (ta : Int64) (tb : Int64) (tc : Int64) (tp : Int64) (tq : Int64) (tr : Int64) (ts : Int64) (tsome : Int32) (tlast : Nat → Int64) (tlet : Int32) (twd : Nat → Int32) (topn : Nat → Int32)  (rv : Int32) (hf : f_X4_thrown tthr = some rv) : Met l yX4_thrown wsX4_thrown { frames := 0, cells := 0, slots := 0, locals := 0 } (va_Pc [.ref th] (mc_Pre (dC, dI) (mc_tys cyI cyJ cyC) [(th, .inr (4, [.int tthr, .int tdd, .int tn, .ref tqA, .ref tqB, .ref tqC, .long ta, .long tb, .long tc, .long tp, .long tq, .long tr, .long ts, .int tsome, .ref tqL, .int tlet, .ref tqW, .ref tqO])), (tqA, .inl (cyJ, 40, .inr (.inl tla))), (tqB, .inl (cyJ, 40, .inr (.inl tlb))), (tqC, .inl (cyJ, 40, .inr (.inl tlc))), (tqL, .inl (cyJ, 7, .inr (.inl tlast))), (tqW, .inl (cyC, 40, .inl twd)), (tqO, .inl (cyI, 5, .inl topn))] sz)) (va_Qi (fun r (_ : Unit) => r = rv) (fun _ t => mc_Post (dC, dI) (va_A [(th, .inr (4, [.int tthr, .int tdd, .int tn, .ref tqA, .ref tqB, .ref tqC, .long ta, .long tb, .long tc, .long tp, .long tq, .long tr, .long ts, .int tsome, .ref tqL, .int tlet, .ref tqW, .ref tqO])), (tqA, .inl (cyJ, 40, .inr (.inl tla))), (tqB, .inl (cyJ, 40, .inr (.inl tlb))), (tqC, .inl (cyJ, 40, .inr (.inl tlc))), (tqL, .inl (cyJ, 7, .inr (.inl tlast))), (tqW, .inl (cyC, 40, .inl twd)), (tqO, .inl (cyI, 5, .inl topn))] sz) [(th, .inr (4, [.int tthr, .int tdd, .int tn, .ref tqA, .ref tqB, .ref tqC, .long ta, .long tb, .long tc, .long tp, .long tq, .long tr, .long ts, .int tsome, .ref tqL, .int tlet, .ref tqW, .ref tqO])), (tqA, .inl (cyJ, 40, .inr (.inl tla))), (tqB, .inl (cyJ, 40, .inr (.inl tlb))), (tqC, .inl (cyJ, 40, .inr (.inl tlc))), (tqL, .inl (cyJ, 7, .inr (.inl tlast))), (tqW, .inl (cyC, 40, .inl twd)), (tqO, .inl (cyI, 5, .inl topn))] t) (va_A [(th, .inr (4, [.int tthr, .int tdd, .int tn, .ref tqA, .ref tqB, .ref tqC, .long ta, .long tb, .long tc, .long tp, .long tq, .long tr, .long ts, .int tsome, .ref tqL, .int tlet, .ref tqW, .ref tqO])), (tqA, .inl (cyJ, 40, .inr (.inl tla))), (tqB, .inl (cyJ, 40, .inr (.inl tlb))), (tqC, .inl (cyJ, 40, .inr (.inl tlc))), (tqL, .inl (cyJ, 7, .inr (.inl tlast))), (tqW, .inl (cyC, 40, .inl twd)), (tqO, .inl (cyI, 5, .inl topn))] sz)) 0 0 (va_A [(th, .inr (4, [.int tthr, .int tdd, .int tn, .ref tqA, .ref tqB, .ref tqC, .long ta, .long tb, .long tc, .long tp, .long tq, .long tr, .long ts, .int tsome, .ref tqL, .int tlet, .ref tqW, .ref tqO])), (tqA, .inl (cyJ, 40, .inr (.inl tla))), (tqB, .inl (cyJ, 40, .inr (.inl tlb))), (tqC, .inl (cyJ, 40, .inr (.inl tlc))), (tqL, .inl (cyJ, 7, .inr (.inl tlast))), (tqW, .inl (cyC, 40, .inl twd)), (tqO, .inl (cyI, 5, .inl topn))] sz) := by
  refine Met.ofW (cc := cX4_thrown) (maxL := 1) (ret := (some .int)) (by decide +kernel) rfl ?_
  intro p e s m args below meth c s₁ B hml hv
  obtain ⟨rfl, hsz, hP, hK, hD0, hnw⟩ := hv
  have hx := B.exec
  have hb := B.bytes
  have hr := B.returns
  have hts := atoms_spec (ws := wsX4_thrown) B.pre
  have hown : s.vm.findClass RX4 = some m.cls := findClass_of_methodNamed B.named
  have hlocks := B.notSynchronized
  have hinX4 : ∀ w ∈ wsX40, w ∈ wsX4_thrown := by decide +kernel
  subst hsz
  have hD := hD0.self (sz := s.heap.size)
  generalize hAe : va_A [(th, .inr (4, [.int tthr, .int tdd, .int tn, .ref tqA, .ref tqB, .ref tqC, .long ta, .long tb, .long tc, .long tp, .long tq, .long tr, .long ts, .int tsome, .ref tqL, .int tlet, .ref tqW, .ref tqO])), (tqA, .inl (cyJ, 40, .inr (.inl tla))), (tqB, .inl (cyJ, 40, .inr (.inl tlb))), (tqC, .inl (cyJ, 40, .inr (.inl tlc))), (tqL, .inl (cyJ, 7, .inr (.inl tlast))), (tqW, .inl (cyC, 40, .inl twd)), (tqO, .inl (cyI, 5, .inl topn))] s.heap.size = A at hD ⊢
  have hA : ∀ q : Nat, s.heap.size ≤ q → A q := fun q h => by rw [← hAe]; exact Or.inr h
  have hS : va_S A s.heap s.heap [] := va_S.rf
  have hP : va_P (dC, dI) vwCl [(th, .inr (4, [.int tthr, .int tdd, .int tn, .ref tqA, .ref tqB, .ref tqC, .long ta, .long tb, .long tc, .long tp, .long tq, .long tr, .long ts, .int tsome, .ref tqL, .int tlet, .ref tqW, .ref tqO])), (tqA, .inl (cyJ, 40, .inr (.inl tla))), (tqB, .inl (cyJ, 40, .inr (.inl tlb))), (tqC, .inl (cyJ, 40, .inr (.inl tlc))), (tqL, .inl (cyJ, 7, .inr (.inl tlast))), (tqW, .inl (cyC, 40, .inl twd)), (tqO, .inl (cyI, 5, .inl topn))] s.heap := hP
  have hl := lv_entry ([.ref th]) (n := 1) (Nat.le_of_ble_eq_true rfl)
  rw [lg_entry_eq]
  generalize (lg_sl ([.ref th]) ++ List.replicate (1 - (lg_sl ([.ref th])).length) Slot.unset).toArray = ls at hl ⊢
  have hl : lv_has ls 1 [(0, .ref th)] := hl
  obtain ⟨QQ, hQQ⟩ : ∃ Q, Q = MQ below (va_Qi (fun r (_ : Unit) => r = rv) (fun _ t => mc_Post (dC, dI) A [(th, .inr (4, [.int tthr, .int tdd, .int tn, .ref tqA, .ref tqB, .ref tqC, .long ta, .long tb, .long tc, .long tp, .long tq, .long tr, .long ts, .int tsome, .ref tqL, .int tlet, .ref tqW, .ref tqO])), (tqA, .inl (cyJ, 40, .inr (.inl tla))), (tqB, .inl (cyJ, 40, .inr (.inl tlb))), (tqC, .inl (cyJ, 40, .inr (.inl tlc))), (tqL, .inl (cyJ, 7, .inr (.inl tlast))), (tqW, .inl (cyC, 40, .inl twd)), (tqO, .inl (cyI, 5, .inl topn))] t) A) ([Value.ref th] : List Value).toArray s 0 0 A := ⟨_, rfl⟩
  rw [← hQQ]
  have h := hf
  unfold f_X4_thrown at h
  refine lv_aload_n hx hb dX4_thrown_0 rfl (lv_at hl 0 rfl) ?_
  refine va_get (D := (dC, dI)) (ci := 4) (v := .int tthr) (C := RX4) (T := TX4) (N := 18) hx hb hts hinX4 hown hK hP 0 rfl rfl 0 (by decide) (hts (.fieldLink RX4 38 "FormDeskModel" "thrown" "I") (by decide +kernel)) (fun _ h9 => h9) rfl dX4_thrown_1 ?_
  obtain hE0 := dm_i1 h
  subst hE0
  rw [hQQ]
  have hP9 := hP.sub (ws' := [(th, .inr (4, [.int tthr, .int tdd, .int tn, .ref tqA, .ref tqB, .ref tqC, .long ta, .long tb, .long tc, .long tp, .long tq, .long tr, .long ts, .int tsome, .ref tqL, .int tlet, .ref tqW, .ref tqO])), (tqA, .inl (cyJ, 40, .inr (.inl tla))), (tqB, .inl (cyJ, 40, .inr (.inl tlb))), (tqC, .inl (cyJ, 40, .inr (.inl tlc))), (tqL, .inl (cyJ, 7, .inr (.inl tlast))), (tqW, .inl (cyC, 40, .inl twd)), (tqO, .inl (cyI, 5, .inl topn))]) [0, 1, 2, 3, 4, 5, 6] rfl
  have hD9 := hD.sub (ws' := [(th, .inr (4, [.int tthr, .int tdd, .int tn, .ref tqA, .ref tqB, .ref tqC, .long ta, .long tb, .long tc, .long tp, .long tq, .long tr, .long ts, .int tsome, .ref tqL, .int tlet, .ref tqW, .ref tqO])), (tqA, .inl (cyJ, 40, .inr (.inl tla))), (tqB, .inl (cyJ, 40, .inr (.inl tlb))), (tqC, .inl (cyJ, 40, .inr (.inl tlc))), (tqL, .inl (cyJ, 7, .inr (.inl tlast))), (tqW, .inl (cyC, 40, .inl twd)), (tqO, .inl (cyI, 5, .inl topn))]) [0, 1, 2, 3, 4, 5, 6] (by decide) rfl
  exact W.iret (v := tthr) hx hb hr (fun t ht hW => ⟨⟨tthr, (), rfl, rfl, by rw [ht]; exact hP9, hD9⟩, hS.F ht⟩) hS.2.2 dX4_thrown_4

def f_X4_refuse (p0 : Int32) : Option (Int32 × Int32) :=
  some ((0 : Int32), p0)
set_option maxHeartbeats 4000000 in
set_option maxRecDepth 100000 in
theorem c_X4_refuse (l : Launch) (dC : Nat → ClassId) (dI : Nat → Nat → Nat) (cyI cyJ cyC : ClassId) (th tqA tqB tqC tqL tqW tqO : Nat) (sz : Nat) (tthr : Int32) (tdd : Int32) (tn : Int32) (tla : Nat → Int64) (tlb : Nat → Int64) (tlc : Nat → Int64) (ta : Int64) (tb : Int64) (tc : Int64) (tp : Int64) (tq : Int64) (tr : Int64) (ts : Int64) (tsome : Int32) (tlast : Nat → Int64) (tlet : Int32) (twd : Nat → Int32) (topn : Nat → Int32) (p0 : Int32) (rv : Int32) (tthr' : Int32) (hf : f_X4_refuse p0 = some (rv, tthr')) : Met l yX4_refuse wsX4_refuse { frames := 0, cells := 0, slots := 0, locals := 0 } (va_Pc [.ref th, .int p0] (mc_Pre (dC, dI) (mc_tys cyI cyJ cyC) [(th, .inr (4, [.int tthr, .int tdd, .int tn, .ref tqA, .ref tqB, .ref tqC, .long ta, .long tb, .long tc, .long tp, .long tq, .long tr, .long ts, .int tsome, .ref tqL, .int tlet, .ref tqW, .ref tqO])), (tqA, .inl (cyJ, 40, .inr (.inl tla))), (tqB, .inl (cyJ, 40, .inr (.inl tlb))), (tqC, .inl (cyJ, 40, .inr (.inl tlc))), (tqL, .inl (cyJ, 7, .inr (.inl tlast))), (tqW, .inl (cyC, 40, .inl twd)), (tqO, .inl (cyI, 5, .inl topn))] sz)) (va_Qi (fun r (_ : Unit) => r = rv) (fun _ t => mc_Post (dC, dI) (va_A [(th, .inr (4, [.int tthr, .int tdd, .int tn, .ref tqA, .ref tqB, .ref tqC, .long ta, .long tb, .long tc, .long tp, .long tq, .long tr, .long ts, .int tsome, .ref tqL, .int tlet, .ref tqW, .ref tqO])), (tqA, .inl (cyJ, 40, .inr (.inl tla))), (tqB, .inl (cyJ, 40, .inr (.inl tlb))), (tqC, .inl (cyJ, 40, .inr (.inl tlc))), (tqL, .inl (cyJ, 7, .inr (.inl tlast))), (tqW, .inl (cyC, 40, .inl twd)), (tqO, .inl (cyI, 5, .inl topn))] sz) [(th, .inr (4, [.int tthr', .int tdd, .int tn, .ref tqA, .ref tqB, .ref tqC, .long ta, .long tb, .long tc, .long tp, .long tq, .long tr, .long ts, .int tsome, .ref tqL, .int tlet, .ref tqW, .ref tqO])), (tqA, .inl (cyJ, 40, .inr (.inl tla))), (tqB, .inl (cyJ, 40, .inr (.inl tlb))), (tqC, .inl (cyJ, 40, .inr (.inl tlc))), (tqL, .inl (cyJ, 7, .inr (.inl tlast))), (tqW, .inl (cyC, 40, .inl twd)), (tqO, .inl (cyI, 5, .inl topn))] t) (va_A [(th, .inr (4, [.int tthr, .int tdd, .int tn, .ref tqA, .ref tqB, .ref tqC, .long ta, .long tb, .long tc, .long tp, .long tq, .long tr, .long ts, .int tsome, .ref tqL, .int tlet, .ref tqW, .ref tqO])), (tqA, .inl (cyJ, 40, .inr (.inl tla))), (tqB, .inl (cyJ, 40, .inr (.inl tlb))), (tqC, .inl (cyJ, 40, .inr (.inl tlc))), (tqL, .inl (cyJ, 7, .inr (.inl tlast))), (tqW, .inl (cyC, 40, .inl twd)), (tqO, .inl (cyI, 5, .inl topn))] sz)) 0 0 (va_A [(th, .inr (4, [.int tthr, .int tdd, .int tn, .ref tqA, .ref tqB, .ref tqC, .long ta, .long tb, .long tc, .long tp, .long tq, .long tr, .long ts, .int tsome, .ref tqL, .int tlet, .ref tqW, .ref tqO])), (tqA, .inl (cyJ, 40, .inr (.inl tla))), (tqB, .inl (cyJ, 40, .inr (.inl tlb))), (tqC, .inl (cyJ, 40, .inr (.inl tlc))), (tqL, .inl (cyJ, 7, .inr (.inl tlast))), (tqW, .inl (cyC, 40, .inl twd)), (tqO, .inl (cyI, 5, .inl topn))] sz) := by
  refine Met.ofW (cc := cX4_refuse) (maxL := 2) (ret := (some .int)) (by decide +kernel) rfl ?_
  intro p e s m args below meth c s₁ B hml hv
  obtain ⟨rfl, hsz, hP, hK, hD0, hnw⟩ := hv
  have hx := B.exec
  have hb := B.bytes
  have hr := B.returns
  have hts := atoms_spec (ws := wsX4_refuse) B.pre
  have hown : s.vm.findClass RX4 = some m.cls := findClass_of_methodNamed B.named
  have hlocks := B.notSynchronized
  have hinX4 : ∀ w ∈ wsX40, w ∈ wsX4_refuse := by decide +kernel
  subst hsz
  have hD := hD0.self (sz := s.heap.size)
  generalize hAe : va_A [(th, .inr (4, [.int tthr, .int tdd, .int tn, .ref tqA, .ref tqB, .ref tqC, .long ta, .long tb, .long tc, .long tp, .long tq, .long tr, .long ts, .int tsome, .ref tqL, .int tlet, .ref tqW, .ref tqO])), (tqA, .inl (cyJ, 40, .inr (.inl tla))), (tqB, .inl (cyJ, 40, .inr (.inl tlb))), (tqC, .inl (cyJ, 40, .inr (.inl tlc))), (tqL, .inl (cyJ, 7, .inr (.inl tlast))), (tqW, .inl (cyC, 40, .inl twd)), (tqO, .inl (cyI, 5, .inl topn))] s.heap.size = A at hD ⊢
  have hA : ∀ q : Nat, s.heap.size ≤ q → A q := fun q h => by rw [← hAe]; exact Or.inr h
  have hS : va_S A s.heap s.heap [] := va_S.rf
  have hP : va_P (dC, dI) vwCl [(th, .inr (4, [.int tthr, .int tdd, .int tn, .ref tqA, .ref tqB, .ref tqC, .long ta, .long tb, .long tc, .long tp, .long tq, .long tr, .long ts, .int tsome, .ref tqL, .int tlet, .ref tqW, .ref tqO])), (tqA, .inl (cyJ, 40, .inr (.inl tla))), (tqB, .inl (cyJ, 40, .inr (.inl tlb))), (tqC, .inl (cyJ, 40, .inr (.inl tlc))), (tqL, .inl (cyJ, 7, .inr (.inl tlast))), (tqW, .inl (cyC, 40, .inl twd)), (tqO, .inl (cyI, 5, .inl topn))] s.heap := hP
  have hl := lv_entry ([.ref th, .int p0]) (n := 2) (Nat.le_of_ble_eq_true rfl)
  rw [lg_entry_eq]
  generalize (lg_sl ([.ref th, .int p0]) ++ List.replicate (2 - (lg_sl ([.ref th, .int p0])).length) Slot.unset).toArray = ls at hl ⊢
  have hl : lv_has ls 2 [(0, .ref th), (1, .int p0)] := hl
  obtain ⟨QQ, hQQ⟩ : ∃ Q, Q = MQ below (va_Qi (fun r (_ : Unit) => r = rv) (fun _ t => mc_Post (dC, dI) A [(th, .inr (4, [.int tthr', .int tdd, .int tn, .ref tqA, .ref tqB, .ref tqC, .long ta, .long tb, .long tc, .long tp, .long tq, .long tr, .long ts, .int tsome, .ref tqL, .int tlet, .ref tqW, .ref tqO])), (tqA, .inl (cyJ, 40, .inr (.inl tla))), (tqB, .inl (cyJ, 40, .inr (.inl tlb))), (tqC, .inl (cyJ, 40, .inr (.inl tlc))), (tqL, .inl (cyJ, 7, .inr (.inl tlast))), (tqW, .inl (cyC, 40, .inl twd)), (tqO, .inl (cyI, 5, .inl topn))] t) A) ([Value.ref th, Value.int p0] : List Value).toArray s 0 0 A := ⟨_, rfl⟩
  rw [← hQQ]
  have h := hf
  unfold f_X4_refuse at h
  refine lv_aload_n hx hb dX4_refuse_0 rfl (lv_at hl 0 rfl) ?_
  refine lv_iload_n hx hb dX4_refuse_1 rfl (lv_at hl 1 rfl) ?_
  refine va_put (D := (dC, dI)) (ci := 4) (v := .int p0) (ty := .int) (C := RX4) (T := TX4) (N := 18) hx hb hts hinX4 tyX4 tyX4_ok nmX4 hown hK hP hD hS 0 rfl rfl 0 (by decide) (hts (.fieldLink RX4 38 "FormDeskModel" "thrown" "I") (by decide +kernel)) (fun _ h9 => h9) rfl (by decide +kernel) rfl rfl (Nat.le_of_ble_eq_true rfl) dX4_refuse_2 (fun H locs hP hD hS => ?_)
  have hP : va_P (dC, dI) vwCl [(th, .inr (4, [.int p0, .int tdd, .int tn, .ref tqA, .ref tqB, .ref tqC, .long ta, .long tb, .long tc, .long tp, .long tq, .long tr, .long ts, .int tsome, .ref tqL, .int tlet, .ref tqW, .ref tqO])), (tqA, .inl (cyJ, 40, .inr (.inl tla))), (tqB, .inl (cyJ, 40, .inr (.inl tlb))), (tqC, .inl (cyJ, 40, .inr (.inl tlc))), (tqL, .inl (cyJ, 7, .inr (.inl tlast))), (tqW, .inl (cyC, 40, .inl twd)), (tqO, .inl (cyI, 5, .inl topn))] H := hP
  have hD : va_D A [(th, .inr (4, [.int p0, .int tdd, .int tn, .ref tqA, .ref tqB, .ref tqC, .long ta, .long tb, .long tc, .long tp, .long tq, .long tr, .long ts, .int tsome, .ref tqL, .int tlet, .ref tqW, .ref tqO])), (tqA, .inl (cyJ, 40, .inr (.inl tla))), (tqB, .inl (cyJ, 40, .inr (.inl tlb))), (tqC, .inl (cyJ, 40, .inr (.inl tlc))), (tqL, .inl (cyJ, 7, .inr (.inl tlast))), (tqW, .inl (cyC, 40, .inl twd)), (tqO, .inl (cyI, 5, .inl topn))] := hD
  refine lv_iconst (v := 0) hx hb dX4_refuse_5 (by decide) ?_
  obtain ⟨hE0, hE1⟩ := dm_i2 h
  subst hE0; subst hE1
  rw [hQQ]
  have hP9 := hP.sub (ws' := [(th, .inr (4, [.int p0, .int tdd, .int tn, .ref tqA, .ref tqB, .ref tqC, .long ta, .long tb, .long tc, .long tp, .long tq, .long tr, .long ts, .int tsome, .ref tqL, .int tlet, .ref tqW, .ref tqO])), (tqA, .inl (cyJ, 40, .inr (.inl tla))), (tqB, .inl (cyJ, 40, .inr (.inl tlb))), (tqC, .inl (cyJ, 40, .inr (.inl tlc))), (tqL, .inl (cyJ, 7, .inr (.inl tlast))), (tqW, .inl (cyC, 40, .inl twd)), (tqO, .inl (cyI, 5, .inl topn))]) [0, 1, 2, 3, 4, 5, 6] rfl
  have hD9 := hD.sub (ws' := [(th, .inr (4, [.int p0, .int tdd, .int tn, .ref tqA, .ref tqB, .ref tqC, .long ta, .long tb, .long tc, .long tp, .long tq, .long tr, .long ts, .int tsome, .ref tqL, .int tlet, .ref tqW, .ref tqO])), (tqA, .inl (cyJ, 40, .inr (.inl tla))), (tqB, .inl (cyJ, 40, .inr (.inl tlb))), (tqC, .inl (cyJ, 40, .inr (.inl tlc))), (tqL, .inl (cyJ, 7, .inr (.inl tlast))), (tqW, .inl (cyC, 40, .inl twd)), (tqO, .inl (cyI, 5, .inl topn))]) [0, 1, 2, 3, 4, 5, 6] (by decide) rfl
  exact W.iret (v := (0 : Int32)) hx hb hr (fun t ht hW => ⟨⟨(0 : Int32), (), rfl, rfl, by rw [ht]; exact hP9, hD9⟩, hS.F ht⟩) hS.2.2 dX4_refuse_6

def f_X4_outside (p0 : Int32) (p1 : Int32) (p2 : Int32) : Option (Int32) :=
  if p0 < p1 then
    some (1 : Int32)
  else
    if p0 ≤ p2 then
      some (0 : Int32)
    else
      some (1 : Int32)
set_option maxHeartbeats 4000000 in
set_option maxRecDepth 100000 in
theorem c_X4_outside (l : Launch) (dC : Nat → ClassId) (dI : Nat → Nat → Nat) (cyI cyJ cyC : ClassId) (sz : Nat)  (p0 : Int32) (p1 : Int32) (p2 : Int32) (rv : Int32) (hf : f_X4_outside p0 p1 p2 = some rv) : Met l yX4_outside wsX4_outside { frames := 0, cells := 0, slots := 0, locals := 0 } (va_Pc [.int p0, .int p1, .int p2] (mc_Pre (dC, dI) (mc_tys cyI cyJ cyC) [] sz)) (va_Qi (fun r (_ : Unit) => r = rv) (fun _ t => mc_Post (dC, dI) (va_A [] sz) [] t) (va_A [] sz)) 0 0 (va_A [] sz) := by
  refine Met.ofW (cc := cX4_outside) (maxL := 3) (ret := (some .boolean)) (by decide +kernel) rfl ?_
  intro p e s m args below meth c s₁ B hml hv
  obtain ⟨rfl, hsz, hP, hK, hD0, hnw⟩ := hv
  have hx := B.exec
  have hb := B.bytes
  have hr := B.returns
  have hts := atoms_spec (ws := wsX4_outside) B.pre
  have hown : s.vm.findClass RX4 = some m.cls := findClass_of_methodNamed B.named
  have hlocks := B.notSynchronized
  subst hsz
  have hD := hD0.self (sz := s.heap.size)
  generalize hAe : va_A [] s.heap.size = A at hD ⊢
  have hA : ∀ q : Nat, s.heap.size ≤ q → A q := fun q h => by rw [← hAe]; exact Or.inr h
  have hS : va_S A s.heap s.heap [] := va_S.rf
  have hP : va_P (dC, dI) vwCl [] s.heap := hP
  have hl := lv_entry ([.int p0, .int p1, .int p2]) (n := 3) (Nat.le_of_ble_eq_true rfl)
  rw [lg_entry_eq]
  generalize (lg_sl ([.int p0, .int p1, .int p2]) ++ List.replicate (3 - (lg_sl ([.int p0, .int p1, .int p2])).length) Slot.unset).toArray = ls at hl ⊢
  have hl : lv_has ls 3 [(0, .int p0), (1, .int p1), (2, .int p2)] := hl
  obtain ⟨QQ, hQQ⟩ : ∃ Q, Q = MQ below (va_Qi (fun r (_ : Unit) => r = rv) (fun _ t => mc_Post (dC, dI) A [] t) A) ([Value.int p0, Value.int p1, Value.int p2] : List Value).toArray s 0 0 A := ⟨_, rfl⟩
  rw [← hQQ]
  have h := hf
  unfold f_X4_outside at h
  refine lv_iload_n hx hb dX4_outside_0 rfl (lv_at hl 0 rfl) ?_
  refine lv_iload_n hx hb dX4_outside_1 rfl (lv_at hl 1 rfl) ?_
  refine lv_icmp_lt (tgt := 10) hx hb dX4_outside_2 (by decide) (fun hc1 => ?_) (fun hc1 => ?_)
  · have h := dm_t hc1 h
    refine lv_iconst (v := 1) hx hb dX4_outside_10 (by decide) ?_
    refine lv_goto (tgt := 15) hx hb dX4_outside_11 (by decide) ?_
    obtain hE0 := dm_i1 h
    subst hE0
    rw [hQQ]
    have hP9 := hP.sub (ws' := []) [] rfl
    have hD9 := hD.sub (ws' := []) [] (by decide) rfl
    exact W.zret (v := (1 : Int32)) hx hb hr rfl (fun t ht hW => ⟨⟨(1 : Int32), (), rfl, rfl, by rw [ht]; exact hP9, hD9⟩, hS.F ht⟩) hS.2.2 dX4_outside_15
  · have h := dm_f hc1 h
    refine lv_iload_n hx hb dX4_outside_5 rfl (lv_at hl 0 rfl) ?_
    refine lv_iload_n hx hb dX4_outside_6 rfl (lv_at hl 2 rfl) ?_
    refine lv_icmp_le (tgt := 14) hx hb dX4_outside_7 (by decide) (fun hc2 => ?_) (fun hc2 => ?_)
    · have h := dm_t hc2 h
      refine lv_iconst (v := 0) hx hb dX4_outside_14 (by decide) ?_
      obtain hE0 := dm_i1 h
      subst hE0
      rw [hQQ]
      have hP9 := hP.sub (ws' := []) [] rfl
      have hD9 := hD.sub (ws' := []) [] (by decide) rfl
      exact W.zret (v := (0 : Int32)) hx hb hr rfl (fun t ht hW => ⟨⟨(0 : Int32), (), rfl, rfl, by rw [ht]; exact hP9, hD9⟩, hS.F ht⟩) hS.2.2 dX4_outside_15
    · have h := dm_f hc2 h
      refine lv_iconst (v := 1) hx hb dX4_outside_10 (by decide) ?_
      refine lv_goto (tgt := 15) hx hb dX4_outside_11 (by decide) ?_
      obtain hE0 := dm_i1 h
      subst hE0
      rw [hQQ]
      have hP9 := hP.sub (ws' := []) [] rfl
      have hD9 := hD.sub (ws' := []) [] (by decide) rfl
      exact W.zret (v := (1 : Int32)) hx hb hr rfl (fun t ht hW => ⟨⟨(1 : Int32), (), rfl, rfl, by rw [ht]; exact hP9, hD9⟩, hS.F ht⟩) hS.2.2 dX4_outside_15

def f_X4_size (p0 : Int64) : Option (Int64) :=
  if (0 : Int64) ≤ p0 then
    some p0
  else
    some (-p0)
set_option maxHeartbeats 4000000 in
set_option maxRecDepth 100000 in
theorem c_X4_size (l : Launch) (dC : Nat → ClassId) (dI : Nat → Nat → Nat) (cyI cyJ cyC : ClassId) (sz : Nat)  (p0 : Int64) (rv : Int64) (hf : f_X4_size p0 = some rv) : Met l yX4_size wsX4_size { frames := 0, cells := 0, slots := 0, locals := 0 } (va_Pc [.long p0] (mc_Pre (dC, dI) (mc_tys cyI cyJ cyC) [] sz)) (va_Ql (fun r (_ : Unit) => r = rv) (fun _ t => mc_Post (dC, dI) (va_A [] sz) [] t) (va_A [] sz)) 0 0 (va_A [] sz) := by
  refine Met.ofW (cc := cX4_size) (maxL := 2) (ret := (some .long)) (by decide +kernel) rfl ?_
  intro p e s m args below meth c s₁ B hml hv
  obtain ⟨rfl, hsz, hP, hK, hD0, hnw⟩ := hv
  have hx := B.exec
  have hb := B.bytes
  have hr := B.returns
  have hts := atoms_spec (ws := wsX4_size) B.pre
  have hown : s.vm.findClass RX4 = some m.cls := findClass_of_methodNamed B.named
  have hlocks := B.notSynchronized
  subst hsz
  have hD := hD0.self (sz := s.heap.size)
  generalize hAe : va_A [] s.heap.size = A at hD ⊢
  have hA : ∀ q : Nat, s.heap.size ≤ q → A q := fun q h => by rw [← hAe]; exact Or.inr h
  have hS : va_S A s.heap s.heap [] := va_S.rf
  have hP : va_P (dC, dI) vwCl [] s.heap := hP
  have hl := lv_entry ([.long p0]) (n := 2) (Nat.le_of_ble_eq_true rfl)
  rw [lg_entry_eq]
  generalize (lg_sl ([.long p0]) ++ List.replicate (2 - (lg_sl ([.long p0])).length) Slot.unset).toArray = ls at hl ⊢
  have hl : lv_has ls 2 [(0, .long p0)] := hl
  obtain ⟨QQ, hQQ⟩ : ∃ Q, Q = MQ below (va_Ql (fun r (_ : Unit) => r = rv) (fun _ t => mc_Post (dC, dI) A [] t) A) ([Value.long p0] : List Value).toArray s 0 0 A := ⟨_, rfl⟩
  rw [← hQQ]
  have h := hf
  unfold f_X4_size at h
  refine lv_lload_n hx hb dX4_size_0 rfl (lv_at hl 0 rfl) ?_
  refine lv_lconst (v := 0) hx hb dX4_size_1 (by decide) ?_
  refine mc_lif_ge (tgt := 11) hx hb dX4_size_2 dX4_size_3 (by decide) (fun hc1 => ?_) (fun hc1 => ?_)
  · have h := dm_t hc1 h
    refine lv_lload_n hx hb dX4_size_11 rfl (lv_at hl 0 rfl) ?_
    obtain hE0 := dm_i1 h
    subst hE0
    rw [hQQ]
    have hP9 := hP.sub (ws' := []) [] rfl
    have hD9 := hD.sub (ws' := []) [] (by decide) rfl
    exact W.lret (v := p0) hx hb hr (fun t ht hW => ⟨⟨p0, (), rfl, rfl, by rw [ht]; exact hP9, hD9⟩, hS.F ht⟩) hS.2.2 dX4_size_12
  · have h := dm_f hc1 h
    refine lv_lload_n hx hb dX4_size_6 rfl (lv_at hl 0 rfl) ?_
    refine lv_lneg hx hb dX4_size_7 ?_
    refine lv_goto (tgt := 12) hx hb dX4_size_8 (by decide) ?_
    obtain hE0 := dm_i1 h
    subst hE0
    rw [hQQ]
    have hP9 := hP.sub (ws' := []) [] rfl
    have hD9 := hD.sub (ws' := []) [] (by decide) rfl
    exact W.lret (v := (-p0)) hx hb hr (fun t ht hW => ⟨⟨(-p0), (), rfl, rfl, by rw [ht]; exact hP9, hD9⟩, hS.F ht⟩) hS.2.2 dX4_size_12

def f_X4_common_L12   : Nat → Int64 → Int64 → Option (Int64)
  | 0, _, _ => none
  | n + 1, v5, v6 =>
    if v6 = (0 : Int64) then
      some (v6 + v5)
    else
      if v5 = (0 : Int64) then
        some (v6 + v5)
      else
        if v6 ≤ v5 then
          dm_g (¬ v6 = 0) <|
          dm_let (v5 - v5 / v6 * v6) fun x11 =>
          f_X4_common_L12 n x11 v6
        else
          dm_g (¬ v5 = 0) <|
          dm_let (v6 - v6 / v5 * v5) fun x13 =>
          f_X4_common_L12 n v5 x13
def f_X4_common (p0 : Int64) (p1 : Int64) : Option (Int64) :=
  dm_b1 (f_X4_size p0) fun r1 =>
  dm_b1 (f_X4_size p1) fun r3 =>
  f_X4_common_L12 100000 r3 r1
set_option maxHeartbeats 4000000 in
set_option maxRecDepth 100000 in
theorem c_X4_common (l : Launch) (dC : Nat → ClassId) (dI : Nat → Nat → Nat) (cyI cyJ cyC : ClassId) (sz : Nat)  (p0 : Int64) (p1 : Int64) (rv : Int64) (hf : f_X4_common p0 p1 = some rv) : Met l yX4_common wsX4_common { frames := 1, cells := 0, slots := 0, locals := 21 } (va_Pc [.long p0, .long p1] (mc_Pre (dC, dI) (mc_tys cyI cyJ cyC) [] sz)) (va_Ql (fun r (_ : Unit) => r = rv) (fun _ t => mc_Post (dC, dI) (va_A [] sz) [] t) (va_A [] sz)) 0 0 (va_A [] sz) := by
  refine Met.ofW (cc := cX4_common) (maxL := 8) (ret := (some .long)) (by decide +kernel) rfl ?_
  intro p e s m args below meth c s₁ B hml hv
  obtain ⟨rfl, hsz, hP, hK, hD0, hnw⟩ := hv
  have hx := B.exec
  have hb := B.bytes
  have hr := B.returns
  have hts := atoms_spec (ws := wsX4_common) B.pre
  have hown : s.vm.findClass RX4 = some m.cls := findClass_of_methodNamed B.named
  have hlocks := B.notSynchronized
  subst hsz
  have hD := hD0.self (sz := s.heap.size)
  generalize hAe : va_A [] s.heap.size = A at hD ⊢
  have hA : ∀ q : Nat, s.heap.size ≤ q → A q := fun q h => by rw [← hAe]; exact Or.inr h
  have hS : va_S A s.heap s.heap [] := va_S.rf
  have hP : va_P (dC, dI) vwCl [] s.heap := hP
  have hl := lv_entry ([.long p0, .long p1]) (n := 8) (Nat.le_of_ble_eq_true rfl)
  rw [lg_entry_eq]
  generalize (lg_sl ([.long p0, .long p1]) ++ List.replicate (8 - (lg_sl ([.long p0, .long p1])).length) Slot.unset).toArray = ls at hl ⊢
  have hl : lv_has ls 8 [(0, .long p0), (2, .long p1)] := hl
  obtain ⟨QQ, hQQ⟩ : ∃ Q, Q = MQ below (va_Ql (fun r (_ : Unit) => r = rv) (fun _ t => mc_Post (dC, dI) A [] t) A) ([Value.long p0, Value.long p1] : List Value).toArray s 0 0 A := ⟨_, rfl⟩
  rw [← hQQ]
  have h := hf
  unfold f_X4_common at h
  refine lv_lload_n hx hb dX4_common_0 rfl (lv_at hl 0 rfl) ?_
  obtain ⟨r1, hk2, h⟩ := dm_b1s h
  refine mc_l (wr := []) (va_runS (As := [.long p0]) (rest := []) ⟨hx, hb, hml, hown, hts⟩ (c_X4_size l dC dI cyI cyJ cyC s.heap.size p0 r1 hk2) (va_cwS 1 hts gX4_common_X4_size rfl rfl rfl (by decide +kernel) ⟨(Nat.le_of_ble_eq_true rfl), (Nat.le_of_ble_eq_true rfl)⟩) (mc_preS hK (hP.sub (ws' := []) [] rfl) (hD.sub (ws' := []) [] (by decide) rfl) hnw) rfl rfl hl.1 rfl (lv_room (Nat.le_of_ble_eq_true rfl)) dX4_common_1 ⟨Nat.zero_le _, Nat.zero_le _⟩) hP hD hS hA [] [] rfl rfl rfl (by decide) (fun H locs hP hD hS => ?_)
  have hP : va_P (dC, dI) vwCl [] H := hP
  have hD : va_D A [] := hD
  refine lv_lstore (lv' := [(4, .long r1), (0, .long p0), (2, .long p1)]) hx hb dX4_common_4 hl (by decide) rfl (fun ls hl => ?_)
  refine lv_lload_n hx hb dX4_common_6 rfl (lv_at hl 2 rfl) ?_
  obtain ⟨r3, hk4, h⟩ := dm_b1s h
  refine mc_l (wr := []) (va_runS (As := [.long p1]) (rest := []) ⟨hx, hb, hml, hown, hts⟩ (c_X4_size l dC dI cyI cyJ cyC H.size p1 r3 hk4) (va_cwS 1 hts gX4_common_X4_size rfl rfl rfl (by decide +kernel) ⟨(Nat.le_of_ble_eq_true rfl), (Nat.le_of_ble_eq_true rfl)⟩) (mc_preS hK (hP.sub (ws' := []) [] rfl) (hD.sub (ws' := []) [] (by decide) rfl) hnw) rfl rfl hl.1 rfl (lv_room (Nat.le_of_ble_eq_true rfl)) dX4_common_7 ⟨Nat.zero_le _, Nat.zero_le _⟩) hP hD hS hA [] [] rfl rfl rfl (by decide) (fun H locs hP hD hS => ?_)
  have hP : va_P (dC, dI) vwCl [] H := hP
  have hD : va_D A [] := hD
  refine lv_lstore (lv' := [(6, .long r3), (4, .long r1), (0, .long p0), (2, .long p1)]) hx hb dX4_common_10 hl (by decide) rfl (fun ls hl => ?_)
  have L12 : ∀ (n12 : Nat) (v5 : Int64) (v6 : Int64) (H : Heap) (locs : List Loc) (ls : Array Slot), f_X4_common_L12 n12 v5 v6 = some rv → va_P (dC, dI) vwCl [] H → va_D A [] → va_S A s.heap H locs → lv_has ls 8 [(6, .long v5), (4, .long v6), (0, .long p0), (2, .long p1)] → W p l e (headSpec wsX4_common { frames := 1, cells := 0, slots := 0, locals := 21 }).room s m ([Value.long p0, Value.long p1] : List Value).toArray below meth c H locs 0 0 QQ (F0 m 12 ls []) := by
    intro n12
    induction n12 with
    | zero =>
      intro v5 v6 H locs ls h
      exact nomatch (show (none : Option (Int64)) = some _ from h)
    | succ n12 ih12 =>
      intro v5 v6 H locs ls h hP hD hS hl
      rw [f_X4_common_L12] at h
      refine lv_lload hx hb dX4_common_12 (lv_at hl 1 rfl) ?_
      refine lv_lconst (v := 0) hx hb dX4_common_14 (by decide) ?_
      refine mc_lif_eq (tgt := 54) hx hb dX4_common_15 dX4_common_16 (by decide) (fun hc7 => ?_) (fun hc7 => ?_)
      · have h := dm_t hc7 h
        refine lv_lload hx hb dX4_common_54 (lv_at hl 1 rfl) ?_
        refine lv_lload hx hb dX4_common_56 (lv_at hl 0 rfl) ?_
        refine lv_ladd hx hb dX4_common_58 ?_
        obtain hE0 := dm_i1 h
        subst hE0
        rw [hQQ]
        have hP9 := hP.sub (ws' := []) [] rfl
        have hD9 := hD.sub (ws' := []) [] (by decide) rfl
        exact W.lret (v := (v6 + v5)) hx hb hr (fun t ht hW => ⟨⟨(v6 + v5), (), rfl, rfl, by rw [ht]; exact hP9, hD9⟩, hS.F ht⟩) hS.2.2 dX4_common_59
      · have h := dm_f hc7 h
        refine lv_lload hx hb dX4_common_19 (lv_at hl 0 rfl) ?_
        refine lv_lconst (v := 0) hx hb dX4_common_21 (by decide) ?_
        refine mc_lif_eq (tgt := 54) hx hb dX4_common_22 dX4_common_23 (by decide) (fun hc8 => ?_) (fun hc8 => ?_)
        · have h := dm_t hc8 h
          refine lv_lload hx hb dX4_common_54 (lv_at hl 1 rfl) ?_
          refine lv_lload hx hb dX4_common_56 (lv_at hl 0 rfl) ?_
          refine lv_ladd hx hb dX4_common_58 ?_
          obtain hE0 := dm_i1 h
          subst hE0
          rw [hQQ]
          have hP9 := hP.sub (ws' := []) [] rfl
          have hD9 := hD.sub (ws' := []) [] (by decide) rfl
          exact W.lret (v := (v6 + v5)) hx hb hr (fun t ht hW => ⟨⟨(v6 + v5), (), rfl, rfl, by rw [ht]; exact hP9, hD9⟩, hS.F ht⟩) hS.2.2 dX4_common_59
        · have h := dm_f hc8 h
          refine lv_lload hx hb dX4_common_26 (lv_at hl 1 rfl) ?_
          refine lv_lload hx hb dX4_common_28 (lv_at hl 0 rfl) ?_
          refine mc_lif_le (tgt := 44) hx hb dX4_common_30 dX4_common_31 (by decide) (fun hc9 => ?_) (fun hc9 => ?_)
          · have h := dm_t hc9 h
            refine lv_lload hx hb dX4_common_44 (lv_at hl 0 rfl) ?_
            refine lv_lload hx hb dX4_common_46 (lv_at hl 1 rfl) ?_
            obtain ⟨hn10, h⟩ := dm_gs h
            refine lv_lrem hx hb dX4_common_48 hn10 ?_
            refine lv_topl (fun x11 ex11 => ?_)
            have h := dm_lu ex11 h
            refine lv_lstore (lv' := [(6, .long x11), (4, .long v6), (0, .long p0), (2, .long p1)]) hx hb dX4_common_49 hl (by decide) rfl (fun ls hl => ?_)
            refine lv_goto (tgt := 12) hx hb dX4_common_51 (by decide) ?_
            exact ih12 x11 v6 H _ ls h (hP.sub [] rfl) (hD.sub [] (by decide) rfl) hS (lv_sub hl [0, 1, 2, 3] rfl)
          · have h := dm_f hc9 h
            refine lv_lload hx hb dX4_common_34 (lv_at hl 1 rfl) ?_
            refine lv_lload hx hb dX4_common_36 (lv_at hl 0 rfl) ?_
            obtain ⟨hn12, h⟩ := dm_gs h
            refine lv_lrem hx hb dX4_common_38 hn12 ?_
            refine lv_topl (fun x13 ex13 => ?_)
            have h := dm_lu ex13 h
            refine lv_lstore (lv' := [(4, .long x13), (6, .long v5), (0, .long p0), (2, .long p1)]) hx hb dX4_common_39 hl (by decide) rfl (fun ls hl => ?_)
            refine lv_goto (tgt := 12) hx hb dX4_common_41 (by decide) ?_
            exact ih12 v5 x13 H _ ls h (hP.sub [] rfl) (hD.sub [] (by decide) rfl) hS (lv_sub hl [1, 0, 2, 3] rfl)
  exact L12 100000 r3 r1 H _ ls h hP hD hS hl

def f_X4_primitive (p0 : Int64) (p1 : Int64) (p2 : Int64) : Option (Int32) :=
  dm_b1 (f_X4_common p0 p1) fun r1 =>
  dm_b1 (f_X4_common r1 p2) fun r3 =>
  if r3 = (1 : Int64) then
    some (1 : Int32)
  else
    some (0 : Int32)
set_option maxHeartbeats 4000000 in
set_option maxRecDepth 100000 in
theorem c_X4_primitive (l : Launch) (dC : Nat → ClassId) (dI : Nat → Nat → Nat) (cyI cyJ cyC : ClassId) (sz : Nat)  (p0 : Int64) (p1 : Int64) (p2 : Int64) (rv : Int32) (hf : f_X4_primitive p0 p1 p2 = some rv) : Met l yX4_primitive wsX4_primitive { frames := 2, cells := 0, slots := 0, locals := 48 } (va_Pc [.long p0, .long p1, .long p2] (mc_Pre (dC, dI) (mc_tys cyI cyJ cyC) [] sz)) (va_Qi (fun r (_ : Unit) => r = rv) (fun _ t => mc_Post (dC, dI) (va_A [] sz) [] t) (va_A [] sz)) 0 0 (va_A [] sz) := by
  refine Met.ofW (cc := cX4_primitive) (maxL := 6) (ret := (some .boolean)) (by decide +kernel) rfl ?_
  intro p e s m args below meth c s₁ B hml hv
  obtain ⟨rfl, hsz, hP, hK, hD0, hnw⟩ := hv
  have hx := B.exec
  have hb := B.bytes
  have hr := B.returns
  have hts := atoms_spec (ws := wsX4_primitive) B.pre
  have hown : s.vm.findClass RX4 = some m.cls := findClass_of_methodNamed B.named
  have hlocks := B.notSynchronized
  subst hsz
  have hD := hD0.self (sz := s.heap.size)
  generalize hAe : va_A [] s.heap.size = A at hD ⊢
  have hA : ∀ q : Nat, s.heap.size ≤ q → A q := fun q h => by rw [← hAe]; exact Or.inr h
  have hS : va_S A s.heap s.heap [] := va_S.rf
  have hP : va_P (dC, dI) vwCl [] s.heap := hP
  have hl := lv_entry ([.long p0, .long p1, .long p2]) (n := 6) (Nat.le_of_ble_eq_true rfl)
  rw [lg_entry_eq]
  generalize (lg_sl ([.long p0, .long p1, .long p2]) ++ List.replicate (6 - (lg_sl ([.long p0, .long p1, .long p2])).length) Slot.unset).toArray = ls at hl ⊢
  have hl : lv_has ls 6 [(0, .long p0), (2, .long p1), (4, .long p2)] := hl
  obtain ⟨QQ, hQQ⟩ : ∃ Q, Q = MQ below (va_Qi (fun r (_ : Unit) => r = rv) (fun _ t => mc_Post (dC, dI) A [] t) A) ([Value.long p0, Value.long p1, Value.long p2] : List Value).toArray s 0 0 A := ⟨_, rfl⟩
  rw [← hQQ]
  have h := hf
  unfold f_X4_primitive at h
  refine lv_lload_n hx hb dX4_primitive_0 rfl (lv_at hl 0 rfl) ?_
  refine lv_lload_n hx hb dX4_primitive_1 rfl (lv_at hl 1 rfl) ?_
  obtain ⟨r1, hk2, h⟩ := dm_b1s h
  refine mc_l (wr := []) (va_runS (As := [.long p0, .long p1]) (rest := []) ⟨hx, hb, hml, hown, hts⟩ (c_X4_common l dC dI cyI cyJ cyC s.heap.size p0 p1 r1 hk2) (va_cwS 2 hts gX4_primitive_X4_common rfl rfl rfl (by decide +kernel) ⟨(Nat.le_of_ble_eq_true rfl), (Nat.le_of_ble_eq_true rfl)⟩) (mc_preS hK (hP.sub (ws' := []) [] rfl) (hD.sub (ws' := []) [] (by decide) rfl) hnw) rfl rfl hl.1 rfl (lv_room (Nat.le_of_ble_eq_true rfl)) dX4_primitive_2 ⟨Nat.zero_le _, Nat.zero_le _⟩) hP hD hS hA [] [] rfl rfl rfl (by decide) (fun H locs hP hD hS => ?_)
  have hP : va_P (dC, dI) vwCl [] H := hP
  have hD : va_D A [] := hD
  refine lv_lload hx hb dX4_primitive_5 (lv_at hl 2 rfl) ?_
  obtain ⟨r3, hk4, h⟩ := dm_b1s h
  refine mc_l (wr := []) (va_runS (As := [.long r1, .long p2]) (rest := []) ⟨hx, hb, hml, hown, hts⟩ (c_X4_common l dC dI cyI cyJ cyC H.size r1 p2 r3 hk4) (va_cwS 2 hts gX4_primitive_X4_common rfl rfl rfl (by decide +kernel) ⟨(Nat.le_of_ble_eq_true rfl), (Nat.le_of_ble_eq_true rfl)⟩) (mc_preS hK (hP.sub (ws' := []) [] rfl) (hD.sub (ws' := []) [] (by decide) rfl) hnw) rfl rfl hl.1 rfl (lv_room (Nat.le_of_ble_eq_true rfl)) dX4_primitive_7 ⟨Nat.zero_le _, Nat.zero_le _⟩) hP hD hS hA [] [] rfl rfl rfl (by decide) (fun H locs hP hD hS => ?_)
  have hP : va_P (dC, dI) vwCl [] H := hP
  have hD : va_D A [] := hD
  refine lv_lconst (v := 1) hx hb dX4_primitive_10 (by decide) ?_
  refine mc_lif_ne (tgt := 19) hx hb dX4_primitive_11 dX4_primitive_12 (by decide) (fun hc5 => ?_) (fun hc5 => ?_)
  · have h := dm_f hc5 h
    refine lv_iconst (v := 0) hx hb dX4_primitive_19 (by decide) ?_
    obtain hE0 := dm_i1 h
    subst hE0
    rw [hQQ]
    have hP9 := hP.sub (ws' := []) [] rfl
    have hD9 := hD.sub (ws' := []) [] (by decide) rfl
    exact W.zret (v := (0 : Int32)) hx hb hr rfl (fun t ht hW => ⟨⟨(0 : Int32), (), rfl, rfl, by rw [ht]; exact hP9, hD9⟩, hS.F ht⟩) hS.2.2 dX4_primitive_20
  · have h := dm_t hc5 h
    refine lv_iconst (v := 1) hx hb dX4_primitive_15 (by decide) ?_
    refine lv_goto (tgt := 20) hx hb dX4_primitive_16 (by decide) ?_
    obtain hE0 := dm_i1 h
    subst hE0
    rw [hQQ]
    have hP9 := hP.sub (ws' := []) [] rfl
    have hD9 := hD.sub (ws' := []) [] (by decide) rfl
    exact W.zret (v := (1 : Int32)) hx hb hr rfl (fun t ht hW => ⟨⟨(1 : Int32), (), rfl, rfl, by rw [ht]; exact hP9, hD9⟩, hS.F ht⟩) hS.2.2 dX4_primitive_20

def f_X4_isReduced (p0 : Int64) (p1 : Int64) (p2 : Int64) : Option (Int32) :=
  dm_b1 (f_X4_size p1) fun r1 =>
  if p0 < r1 then
    some (0 : Int32)
  else
    if p0 ≤ p2 then
      if (0 : Int64) ≤ p1 then
        some (1 : Int32)
      else
        dm_b1 (f_X4_size p1) fun r6 =>
        if r6 = p0 then
          some (0 : Int32)
        else
          if p0 = p2 then
            some (0 : Int32)
          else
            some (1 : Int32)
    else
      some (0 : Int32)
set_option maxHeartbeats 4000000 in
set_option maxRecDepth 100000 in
theorem c_X4_isReduced (l : Launch) (dC : Nat → ClassId) (dI : Nat → Nat → Nat) (cyI cyJ cyC : ClassId) (sz : Nat)  (p0 : Int64) (p1 : Int64) (p2 : Int64) (rv : Int32) (hf : f_X4_isReduced p0 p1 p2 = some rv) : Met l yX4_isReduced wsX4_isReduced { frames := 1, cells := 0, slots := 0, locals := 21 } (va_Pc [.long p0, .long p1, .long p2] (mc_Pre (dC, dI) (mc_tys cyI cyJ cyC) [] sz)) (va_Qi (fun r (_ : Unit) => r = rv) (fun _ t => mc_Post (dC, dI) (va_A [] sz) [] t) (va_A [] sz)) 0 0 (va_A [] sz) := by
  refine Met.ofW (cc := cX4_isReduced) (maxL := 6) (ret := (some .boolean)) (by decide +kernel) rfl ?_
  intro p e s m args below meth c s₁ B hml hv
  obtain ⟨rfl, hsz, hP, hK, hD0, hnw⟩ := hv
  have hx := B.exec
  have hb := B.bytes
  have hr := B.returns
  have hts := atoms_spec (ws := wsX4_isReduced) B.pre
  have hown : s.vm.findClass RX4 = some m.cls := findClass_of_methodNamed B.named
  have hlocks := B.notSynchronized
  subst hsz
  have hD := hD0.self (sz := s.heap.size)
  generalize hAe : va_A [] s.heap.size = A at hD ⊢
  have hA : ∀ q : Nat, s.heap.size ≤ q → A q := fun q h => by rw [← hAe]; exact Or.inr h
  have hS : va_S A s.heap s.heap [] := va_S.rf
  have hP : va_P (dC, dI) vwCl [] s.heap := hP
  have hl := lv_entry ([.long p0, .long p1, .long p2]) (n := 6) (Nat.le_of_ble_eq_true rfl)
  rw [lg_entry_eq]
  generalize (lg_sl ([.long p0, .long p1, .long p2]) ++ List.replicate (6 - (lg_sl ([.long p0, .long p1, .long p2])).length) Slot.unset).toArray = ls at hl ⊢
  have hl : lv_has ls 6 [(0, .long p0), (2, .long p1), (4, .long p2)] := hl
  obtain ⟨QQ, hQQ⟩ : ∃ Q, Q = MQ below (va_Qi (fun r (_ : Unit) => r = rv) (fun _ t => mc_Post (dC, dI) A [] t) A) ([Value.long p0, Value.long p1, Value.long p2] : List Value).toArray s 0 0 A := ⟨_, rfl⟩
  rw [← hQQ]
  have h := hf
  unfold f_X4_isReduced at h
  refine lv_lload_n hx hb dX4_isReduced_0 rfl (lv_at hl 1 rfl) ?_
  obtain ⟨r1, hk2, h⟩ := dm_b1s h
  refine mc_l (wr := []) (va_runS (As := [.long p1]) (rest := []) ⟨hx, hb, hml, hown, hts⟩ (c_X4_size l dC dI cyI cyJ cyC s.heap.size p1 r1 hk2) (va_cwS 1 hts gX4_isReduced_X4_size rfl rfl rfl (by decide +kernel) ⟨(Nat.le_of_ble_eq_true rfl), (Nat.le_of_ble_eq_true rfl)⟩) (mc_preS hK (hP.sub (ws' := []) [] rfl) (hD.sub (ws' := []) [] (by decide) rfl) hnw) rfl rfl hl.1 rfl (lv_room (Nat.le_of_ble_eq_true rfl)) dX4_isReduced_1 ⟨Nat.zero_le _, Nat.zero_le _⟩) hP hD hS hA [] [] rfl rfl rfl (by decide) (fun H locs hP hD hS => ?_)
  have hP : va_P (dC, dI) vwCl [] H := hP
  have hD : va_D A [] := hD
  refine lv_lload_n hx hb dX4_isReduced_4 rfl (lv_at hl 0 rfl) ?_
  refine mc_lif_gt (tgt := 16) hx hb dX4_isReduced_5 dX4_isReduced_6 (by decide) (fun hc3 => ?_) (fun hc3 => ?_)
  · have h := dm_t hc3 h
    refine lv_iconst (v := 0) hx hb dX4_isReduced_16 (by decide) ?_
    obtain hE0 := dm_i1 h
    subst hE0
    rw [hQQ]
    have hP9 := hP.sub (ws' := []) [] rfl
    have hD9 := hD.sub (ws' := []) [] (by decide) rfl
    exact W.zret (v := (0 : Int32)) hx hb hr rfl (fun t ht hW => ⟨⟨(0 : Int32), (), rfl, rfl, by rw [ht]; exact hP9, hD9⟩, hS.F ht⟩) hS.2.2 dX4_isReduced_17
  · have h := dm_f hc3 h
    refine lv_lload_n hx hb dX4_isReduced_9 rfl (lv_at hl 0 rfl) ?_
    refine lv_lload hx hb dX4_isReduced_10 (lv_at hl 2 rfl) ?_
    refine mc_lif_le (tgt := 18) hx hb dX4_isReduced_12 dX4_isReduced_13 (by decide) (fun hc4 => ?_) (fun hc4 => ?_)
    · have h := dm_t hc4 h
      refine lv_lload_n hx hb dX4_isReduced_18 rfl (lv_at hl 1 rfl) ?_
      refine lv_lconst (v := 0) hx hb dX4_isReduced_19 (by decide) ?_
      refine mc_lif_ge (tgt := 40) hx hb dX4_isReduced_20 dX4_isReduced_21 (by decide) (fun hc5 => ?_) (fun hc5 => ?_)
      · have h := dm_t hc5 h
        refine lv_iconst (v := 1) hx hb dX4_isReduced_40 (by decide) ?_
        refine lv_goto (tgt := 45) hx hb dX4_isReduced_41 (by decide) ?_
        obtain hE0 := dm_i1 h
        subst hE0
        rw [hQQ]
        have hP9 := hP.sub (ws' := []) [] rfl
        have hD9 := hD.sub (ws' := []) [] (by decide) rfl
        exact W.zret (v := (1 : Int32)) hx hb hr rfl (fun t ht hW => ⟨⟨(1 : Int32), (), rfl, rfl, by rw [ht]; exact hP9, hD9⟩, hS.F ht⟩) hS.2.2 dX4_isReduced_45
      · have h := dm_f hc5 h
        refine lv_lload_n hx hb dX4_isReduced_24 rfl (lv_at hl 1 rfl) ?_
        obtain ⟨r6, hk7, h⟩ := dm_b1s h
        refine mc_l (wr := []) (va_runS (As := [.long p1]) (rest := []) ⟨hx, hb, hml, hown, hts⟩ (c_X4_size l dC dI cyI cyJ cyC H.size p1 r6 hk7) (va_cwS 1 hts gX4_isReduced_X4_size rfl rfl rfl (by decide +kernel) ⟨(Nat.le_of_ble_eq_true rfl), (Nat.le_of_ble_eq_true rfl)⟩) (mc_preS hK (hP.sub (ws' := []) [] rfl) (hD.sub (ws' := []) [] (by decide) rfl) hnw) rfl rfl hl.1 rfl (lv_room (Nat.le_of_ble_eq_true rfl)) dX4_isReduced_25 ⟨Nat.zero_le _, Nat.zero_le _⟩) hP hD hS hA [] [] rfl rfl rfl (by decide) (fun H locs hP hD hS => ?_)
        have hP : va_P (dC, dI) vwCl [] H := hP
        have hD : va_D A [] := hD
        refine lv_lload_n hx hb dX4_isReduced_28 rfl (lv_at hl 0 rfl) ?_
        refine mc_lif_eq (tgt := 44) hx hb dX4_isReduced_29 dX4_isReduced_30 (by decide) (fun hc8 => ?_) (fun hc8 => ?_)
        · have h := dm_t hc8 h
          refine lv_iconst (v := 0) hx hb dX4_isReduced_44 (by decide) ?_
          obtain hE0 := dm_i1 h
          subst hE0
          rw [hQQ]
          have hP9 := hP.sub (ws' := []) [] rfl
          have hD9 := hD.sub (ws' := []) [] (by decide) rfl
          exact W.zret (v := (0 : Int32)) hx hb hr rfl (fun t ht hW => ⟨⟨(0 : Int32), (), rfl, rfl, by rw [ht]; exact hP9, hD9⟩, hS.F ht⟩) hS.2.2 dX4_isReduced_45
        · have h := dm_f hc8 h
          refine lv_lload_n hx hb dX4_isReduced_33 rfl (lv_at hl 0 rfl) ?_
          refine lv_lload hx hb dX4_isReduced_34 (lv_at hl 2 rfl) ?_
          refine mc_lif_eq (tgt := 44) hx hb dX4_isReduced_36 dX4_isReduced_37 (by decide) (fun hc9 => ?_) (fun hc9 => ?_)
          · have h := dm_t hc9 h
            refine lv_iconst (v := 0) hx hb dX4_isReduced_44 (by decide) ?_
            obtain hE0 := dm_i1 h
            subst hE0
            rw [hQQ]
            have hP9 := hP.sub (ws' := []) [] rfl
            have hD9 := hD.sub (ws' := []) [] (by decide) rfl
            exact W.zret (v := (0 : Int32)) hx hb hr rfl (fun t ht hW => ⟨⟨(0 : Int32), (), rfl, rfl, by rw [ht]; exact hP9, hD9⟩, hS.F ht⟩) hS.2.2 dX4_isReduced_45
          · have h := dm_f hc9 h
            refine lv_iconst (v := 1) hx hb dX4_isReduced_40 (by decide) ?_
            refine lv_goto (tgt := 45) hx hb dX4_isReduced_41 (by decide) ?_
            obtain hE0 := dm_i1 h
            subst hE0
            rw [hQQ]
            have hP9 := hP.sub (ws' := []) [] rfl
            have hD9 := hD.sub (ws' := []) [] (by decide) rfl
            exact W.zret (v := (1 : Int32)) hx hb hr rfl (fun t ht hW => ⟨⟨(1 : Int32), (), rfl, rfl, by rw [ht]; exact hP9, hD9⟩, hS.F ht⟩) hS.2.2 dX4_isReduced_45
    · have h := dm_f hc4 h
      refine lv_iconst (v := 0) hx hb dX4_isReduced_16 (by decide) ?_
      obtain hE0 := dm_i1 h
      subst hE0
      rw [hQQ]
      have hP9 := hP.sub (ws' := []) [] rfl
      have hD9 := hD.sub (ws' := []) [] (by decide) rfl
      exact W.zret (v := (0 : Int32)) hx hb hr rfl (fun t ht hW => ⟨⟨(0 : Int32), (), rfl, rfl, by rw [ht]; exact hP9, hD9⟩, hS.F ht⟩) hS.2.2 dX4_isReduced_17

def f_X4_list_L13 (p0 : Int32) (v1 : Int32) (k4 : Int32 → Int32 → (Nat → Int64) → (Nat → Int64) → (Nat → Int64) → Option (Int32 × Int32 × Int32 × (Nat → Int64) × (Nat → Int64) × (Nat → Int64))) : Nat → Int32 → Int32 → (Nat → Int64) → (Nat → Int64) → (Nat → Int64) → Option (Int32 × Int32 × Int32 × (Nat → Int64) × (Nat → Int64) × (Nat → Int64))
  | 0, _, _, _, _, _ => none
  | n + 1, v7, v8, v9, v10, v11 =>
    if (((2 : Int32) * v1) + (1 : Int32)) ≤ v7 then
      dm_let (v1 + (1 : Int32)) fun x13 =>
      k4 x13 v8 v9 v10 v11
    else
      if v7 = 0 then
        dm_let (((0 : Int32) * (0 : Int32)) - p0) fun x68 =>
        dm_g (¬ ((4 : Int32) * v1) = 0) <|
        dm_let (x68 / ((4 : Int32) * v1)) fun x70 =>
        dm_g (¬ ((4 : Int32) * v1) = 0) <|
        if (x68 - x68 / ((4 : Int32) * v1) * ((4 : Int32) * v1)) = 0 then
          dm_b1 (f_X4_isReduced (v1).toInt64 ((0 : Int32)).toInt64 (x70).toInt64) fun r74 =>
          if r74 = 0 then
            dm_let (v7 + (1 : Int32)) fun x77 =>
            f_X4_list_L13 p0 v1 k4 n x77 v8 v9 v10 v11
          else
            dm_b1 (f_X4_primitive (v1).toInt64 ((0 : Int32)).toInt64 (x70).toInt64) fun r78 =>
            if r78 = 0 then
              dm_let (v7 + (1 : Int32)) fun x92 =>
              f_X4_list_L13 p0 v1 k4 n x92 v8 v9 v10 v11
            else
              if (40 : Int32) ≤ v8 then
                dm_let (v8 + (1 : Int32)) fun x82 =>
                dm_let (v7 + (1 : Int32)) fun x83 =>
                f_X4_list_L13 p0 v1 k4 n x83 x82 v9 v10 v11
              else
                dm_let (v1).toInt64 fun x84 =>
                dm_g (¬ (v8 < 0 ∨ 40 ≤ (v8).toNatClampNeg)) <|
                dm_let ((0 : Int32)).toInt64 fun x86 =>
                dm_g (¬ (v8 < 0 ∨ 40 ≤ (v8).toNatClampNeg)) <|
                dm_let (x70).toInt64 fun x88 =>
                dm_g (¬ (v8 < 0 ∨ 40 ≤ (v8).toNatClampNeg)) <|
                dm_let (v8 + (1 : Int32)) fun x90 =>
                dm_let (v7 + (1 : Int32)) fun x91 =>
                f_X4_list_L13 p0 v1 k4 n x91 x90 (vp_updL v9 (v8).toNatClampNeg x84) (vp_updL v10 (v8).toNatClampNeg x86) (vp_updL v11 (v8).toNatClampNeg x88)
        else
          dm_let (v7 + (1 : Int32)) fun x73 =>
          f_X4_list_L13 p0 v1 k4 n x73 v8 v9 v10 v11
      else
        if (v7 - v7 / (2 : Int32) * (2 : Int32)) = (1 : Int32) then
          dm_let ((v7 + (1 : Int32)) / (2 : Int32)) fun x42 =>
          dm_let ((x42 * x42) - p0) fun x43 =>
          dm_g (¬ ((4 : Int32) * v1) = 0) <|
          dm_let (x43 / ((4 : Int32) * v1)) fun x45 =>
          dm_g (¬ ((4 : Int32) * v1) = 0) <|
          if (x43 - x43 / ((4 : Int32) * v1) * ((4 : Int32) * v1)) = 0 then
            dm_b1 (f_X4_isReduced (v1).toInt64 (x42).toInt64 (x45).toInt64) fun r49 =>
            if r49 = 0 then
              dm_let (v7 + (1 : Int32)) fun x52 =>
              f_X4_list_L13 p0 v1 k4 n x52 v8 v9 v10 v11
            else
              dm_b1 (f_X4_primitive (v1).toInt64 (x42).toInt64 (x45).toInt64) fun r53 =>
              if r53 = 0 then
                dm_let (v7 + (1 : Int32)) fun x67 =>
                f_X4_list_L13 p0 v1 k4 n x67 v8 v9 v10 v11
              else
                if (40 : Int32) ≤ v8 then
                  dm_let (v8 + (1 : Int32)) fun x57 =>
                  dm_let (v7 + (1 : Int32)) fun x58 =>
                  f_X4_list_L13 p0 v1 k4 n x58 x57 v9 v10 v11
                else
                  dm_let (v1).toInt64 fun x59 =>
                  dm_g (¬ (v8 < 0 ∨ 40 ≤ (v8).toNatClampNeg)) <|
                  dm_let (x42).toInt64 fun x61 =>
                  dm_g (¬ (v8 < 0 ∨ 40 ≤ (v8).toNatClampNeg)) <|
                  dm_let (x45).toInt64 fun x63 =>
                  dm_g (¬ (v8 < 0 ∨ 40 ≤ (v8).toNatClampNeg)) <|
                  dm_let (v8 + (1 : Int32)) fun x65 =>
                  dm_let (v7 + (1 : Int32)) fun x66 =>
                  f_X4_list_L13 p0 v1 k4 n x66 x65 (vp_updL v9 (v8).toNatClampNeg x59) (vp_updL v10 (v8).toNatClampNeg x61) (vp_updL v11 (v8).toNatClampNeg x63)
          else
            dm_let (v7 + (1 : Int32)) fun x48 =>
            f_X4_list_L13 p0 v1 k4 n x48 v8 v9 v10 v11
        else
          dm_let ((-v7) / (2 : Int32)) fun x16 =>
          dm_let ((x16 * x16) - p0) fun x17 =>
          dm_g (¬ ((4 : Int32) * v1) = 0) <|
          dm_let (x17 / ((4 : Int32) * v1)) fun x19 =>
          dm_g (¬ ((4 : Int32) * v1) = 0) <|
          if (x17 - x17 / ((4 : Int32) * v1) * ((4 : Int32) * v1)) = 0 then
            dm_b1 (f_X4_isReduced (v1).toInt64 (x16).toInt64 (x19).toInt64) fun r23 =>
            if r23 = 0 then
              dm_let (v7 + (1 : Int32)) fun x26 =>
              f_X4_list_L13 p0 v1 k4 n x26 v8 v9 v10 v11
            else
              dm_b1 (f_X4_primitive (v1).toInt64 (x16).toInt64 (x19).toInt64) fun r27 =>
              if r27 = 0 then
                dm_let (v7 + (1 : Int32)) fun x41 =>
                f_X4_list_L13 p0 v1 k4 n x41 v8 v9 v10 v11
              else
                if (40 : Int32) ≤ v8 then
                  dm_let (v8 + (1 : Int32)) fun x31 =>
                  dm_let (v7 + (1 : Int32)) fun x32 =>
                  f_X4_list_L13 p0 v1 k4 n x32 x31 v9 v10 v11
                else
                  dm_let (v1).toInt64 fun x33 =>
                  dm_g (¬ (v8 < 0 ∨ 40 ≤ (v8).toNatClampNeg)) <|
                  dm_let (x16).toInt64 fun x35 =>
                  dm_g (¬ (v8 < 0 ∨ 40 ≤ (v8).toNatClampNeg)) <|
                  dm_let (x19).toInt64 fun x37 =>
                  dm_g (¬ (v8 < 0 ∨ 40 ≤ (v8).toNatClampNeg)) <|
                  dm_let (v8 + (1 : Int32)) fun x39 =>
                  dm_let (v7 + (1 : Int32)) fun x40 =>
                  f_X4_list_L13 p0 v1 k4 n x40 x39 (vp_updL v9 (v8).toNatClampNeg x33) (vp_updL v10 (v8).toNatClampNeg x35) (vp_updL v11 (v8).toNatClampNeg x37)
          else
            dm_let (v7 + (1 : Int32)) fun x22 =>
            f_X4_list_L13 p0 v1 k4 n x22 v8 v9 v10 v11
def f_X4_list_L4 (p0 : Int32)  : Nat → Int32 → Int32 → (Nat → Int64) → (Nat → Int64) → (Nat → Int64) → Option (Int32 × Int32 × Int32 × (Nat → Int64) × (Nat → Int64) × (Nat → Int64))
  | 0, _, _, _, _, _ => none
  | n + 1, v1, v2, v3, v4, v5 =>
    if (27 : Int32) ≤ v1 then
      some (v2, p0, v2, v3, v4, v5)
    else
      f_X4_list_L13 p0 v1 (fun o0 o1 o2 o3 o4 => f_X4_list_L4 p0 n o0 o1 o2 o3 o4) 100000 (0 : Int32) v2 v3 v4 v5
def f_X4_list (tla : Nat → Int64) (tlb : Nat → Int64) (tlc : Nat → Int64) (p0 : Int32) : Option (Int32 × Int32 × Int32 × (Nat → Int64) × (Nat → Int64) × (Nat → Int64)) :=
  f_X4_list_L4 p0 100000 (1 : Int32) (0 : Int32) tla tlb tlc
set_option maxHeartbeats 4000000 in
set_option maxRecDepth 100000 in
theorem c_X4_list (l : Launch) (dC : Nat → ClassId) (dI : Nat → Nat → Nat) (cyI cyJ cyC : ClassId) (th tqA tqB tqC tqL tqW tqO : Nat) (sz : Nat) (tthr : Int32) (tdd : Int32) (tn : Int32) (tla : Nat → Int64) (tlb : Nat → Int64) (tlc : Nat → Int64) (ta : Int64) (tb : Int64) (tc : Int64) (tp : Int64) (tq : Int64) (tr : Int64) (ts : Int64) (tsome : Int32) (tlast : Nat → Int64) (tlet : Int32) (twd : Nat → Int32) (topn : Nat → Int32) (p0 : Int32) (rv : Int32) (tdd' : Int32) (tn' : Int32) (tla' : Nat → Int64) (tlb' : Nat → Int64) (tlc' : Nat → Int64) (hf : f_X4_list tla tlb tlc p0 = some (rv, tdd', tn', tla', tlb', tlc')) : Met l yX4_list wsX4_list { frames := 3, cells := 0, slots := 0, locals := 73 } (va_Pc [.ref th, .int p0] (mc_Pre (dC, dI) (mc_tys cyI cyJ cyC) [(th, .inr (4, [.int tthr, .int tdd, .int tn, .ref tqA, .ref tqB, .ref tqC, .long ta, .long tb, .long tc, .long tp, .long tq, .long tr, .long ts, .int tsome, .ref tqL, .int tlet, .ref tqW, .ref tqO])), (tqA, .inl (cyJ, 40, .inr (.inl tla))), (tqB, .inl (cyJ, 40, .inr (.inl tlb))), (tqC, .inl (cyJ, 40, .inr (.inl tlc))), (tqL, .inl (cyJ, 7, .inr (.inl tlast))), (tqW, .inl (cyC, 40, .inl twd)), (tqO, .inl (cyI, 5, .inl topn))] sz)) (va_Qi (fun r (_ : Unit) => r = rv) (fun _ t => mc_Post (dC, dI) (va_A [(th, .inr (4, [.int tthr, .int tdd, .int tn, .ref tqA, .ref tqB, .ref tqC, .long ta, .long tb, .long tc, .long tp, .long tq, .long tr, .long ts, .int tsome, .ref tqL, .int tlet, .ref tqW, .ref tqO])), (tqA, .inl (cyJ, 40, .inr (.inl tla))), (tqB, .inl (cyJ, 40, .inr (.inl tlb))), (tqC, .inl (cyJ, 40, .inr (.inl tlc))), (tqL, .inl (cyJ, 7, .inr (.inl tlast))), (tqW, .inl (cyC, 40, .inl twd)), (tqO, .inl (cyI, 5, .inl topn))] sz) [(th, .inr (4, [.int tthr, .int tdd', .int tn', .ref tqA, .ref tqB, .ref tqC, .long ta, .long tb, .long tc, .long tp, .long tq, .long tr, .long ts, .int tsome, .ref tqL, .int tlet, .ref tqW, .ref tqO])), (tqA, .inl (cyJ, 40, .inr (.inl tla'))), (tqB, .inl (cyJ, 40, .inr (.inl tlb'))), (tqC, .inl (cyJ, 40, .inr (.inl tlc'))), (tqL, .inl (cyJ, 7, .inr (.inl tlast))), (tqW, .inl (cyC, 40, .inl twd)), (tqO, .inl (cyI, 5, .inl topn))] t) (va_A [(th, .inr (4, [.int tthr, .int tdd, .int tn, .ref tqA, .ref tqB, .ref tqC, .long ta, .long tb, .long tc, .long tp, .long tq, .long tr, .long ts, .int tsome, .ref tqL, .int tlet, .ref tqW, .ref tqO])), (tqA, .inl (cyJ, 40, .inr (.inl tla))), (tqB, .inl (cyJ, 40, .inr (.inl tlb))), (tqC, .inl (cyJ, 40, .inr (.inl tlc))), (tqL, .inl (cyJ, 7, .inr (.inl tlast))), (tqW, .inl (cyC, 40, .inl twd)), (tqO, .inl (cyI, 5, .inl topn))] sz)) 0 0 (va_A [(th, .inr (4, [.int tthr, .int tdd, .int tn, .ref tqA, .ref tqB, .ref tqC, .long ta, .long tb, .long tc, .long tp, .long tq, .long tr, .long ts, .int tsome, .ref tqL, .int tlet, .ref tqW, .ref tqO])), (tqA, .inl (cyJ, 40, .inr (.inl tla))), (tqB, .inl (cyJ, 40, .inr (.inl tlb))), (tqC, .inl (cyJ, 40, .inr (.inl tlc))), (tqL, .inl (cyJ, 7, .inr (.inl tlast))), (tqW, .inl (cyC, 40, .inl twd)), (tqO, .inl (cyI, 5, .inl topn))] sz) := by
  refine Met.ofW (cc := cX4_list) (maxL := 8) (ret := (some .int)) (by decide +kernel) rfl ?_
  intro p e s m args below meth c s₁ B hml hv
  obtain ⟨rfl, hsz, hP, hK, hD0, hnw⟩ := hv
  have hx := B.exec
  have hb := B.bytes
  have hr := B.returns
  have hts := atoms_spec (ws := wsX4_list) B.pre
  have hown : s.vm.findClass RX4 = some m.cls := findClass_of_methodNamed B.named
  have hlocks := B.notSynchronized
  have hinX4 : ∀ w ∈ wsX40, w ∈ wsX4_list := by decide +kernel
  subst hsz
  have hD := hD0.self (sz := s.heap.size)
  generalize hAe : va_A [(th, .inr (4, [.int tthr, .int tdd, .int tn, .ref tqA, .ref tqB, .ref tqC, .long ta, .long tb, .long tc, .long tp, .long tq, .long tr, .long ts, .int tsome, .ref tqL, .int tlet, .ref tqW, .ref tqO])), (tqA, .inl (cyJ, 40, .inr (.inl tla))), (tqB, .inl (cyJ, 40, .inr (.inl tlb))), (tqC, .inl (cyJ, 40, .inr (.inl tlc))), (tqL, .inl (cyJ, 7, .inr (.inl tlast))), (tqW, .inl (cyC, 40, .inl twd)), (tqO, .inl (cyI, 5, .inl topn))] s.heap.size = A at hD ⊢
  have hA : ∀ q : Nat, s.heap.size ≤ q → A q := fun q h => by rw [← hAe]; exact Or.inr h
  have hS : va_S A s.heap s.heap [] := va_S.rf
  have hP : va_P (dC, dI) vwCl [(th, .inr (4, [.int tthr, .int tdd, .int tn, .ref tqA, .ref tqB, .ref tqC, .long ta, .long tb, .long tc, .long tp, .long tq, .long tr, .long ts, .int tsome, .ref tqL, .int tlet, .ref tqW, .ref tqO])), (tqA, .inl (cyJ, 40, .inr (.inl tla))), (tqB, .inl (cyJ, 40, .inr (.inl tlb))), (tqC, .inl (cyJ, 40, .inr (.inl tlc))), (tqL, .inl (cyJ, 7, .inr (.inl tlast))), (tqW, .inl (cyC, 40, .inl twd)), (tqO, .inl (cyI, 5, .inl topn))] s.heap := hP
  have hl := lv_entry ([.ref th, .int p0]) (n := 8) (Nat.le_of_ble_eq_true rfl)
  rw [lg_entry_eq]
  generalize (lg_sl ([.ref th, .int p0]) ++ List.replicate (8 - (lg_sl ([.ref th, .int p0])).length) Slot.unset).toArray = ls at hl ⊢
  have hl : lv_has ls 8 [(0, .ref th), (1, .int p0)] := hl
  obtain ⟨QQ, hQQ⟩ : ∃ Q, Q = MQ below (va_Qi (fun r (_ : Unit) => r = rv) (fun _ t => mc_Post (dC, dI) A [(th, .inr (4, [.int tthr, .int tdd', .int tn', .ref tqA, .ref tqB, .ref tqC, .long ta, .long tb, .long tc, .long tp, .long tq, .long tr, .long ts, .int tsome, .ref tqL, .int tlet, .ref tqW, .ref tqO])), (tqA, .inl (cyJ, 40, .inr (.inl tla'))), (tqB, .inl (cyJ, 40, .inr (.inl tlb'))), (tqC, .inl (cyJ, 40, .inr (.inl tlc'))), (tqL, .inl (cyJ, 7, .inr (.inl tlast))), (tqW, .inl (cyC, 40, .inl twd)), (tqO, .inl (cyI, 5, .inl topn))] t) A) ([Value.ref th, Value.int p0] : List Value).toArray s 0 0 A := ⟨_, rfl⟩
  rw [← hQQ]
  have h := hf
  unfold f_X4_list at h
  refine lv_iconst (v := 0) hx hb dX4_list_0 (by decide) ?_
  refine lv_istore_n (lv' := [(2, .int (0 : Int32)), (0, .ref th), (1, .int p0)]) hx hb dX4_list_1 rfl hl (by decide) rfl (fun ls hl => ?_)
  refine lv_iconst (v := 1) hx hb dX4_list_2 (by decide) ?_
  refine lv_istore_n (lv' := [(3, .int (1 : Int32)), (2, .int (0 : Int32)), (0, .ref th), (1, .int p0)]) hx hb dX4_list_3 rfl hl (by decide) rfl (fun ls hl => ?_)
  have L4 : ∀ (n4 : Nat) (v1 : Int32) (v2 : Int32) (v3 : Nat → Int64) (v4 : Nat → Int64) (v5 : Nat → Int64) (H : Heap) (locs : List Loc) (ls : Array Slot), f_X4_list_L4 p0 n4 v1 v2 v3 v4 v5 = some (rv, tdd', tn', tla', tlb', tlc') → va_P (dC, dI) vwCl [(th, .inr (4, [.int tthr, .int tdd, .int tn, .ref tqA, .ref tqB, .ref tqC, .long ta, .long tb, .long tc, .long tp, .long tq, .long tr, .long ts, .int tsome, .ref tqL, .int tlet, .ref tqW, .ref tqO])), (tqA, .inl (cyJ, 40, .inr (.inl v3))), (tqB, .inl (cyJ, 40, .inr (.inl v4))), (tqC, .inl (cyJ, 40, .inr (.inl v5))), (tqL, .inl (cyJ, 7, .inr (.inl tlast))), (tqW, .inl (cyC, 40, .inl twd)), (tqO, .inl (cyI, 5, .inl topn))] H → va_D A [(th, .inr (4, [.int tthr, .int tdd, .int tn, .ref tqA, .ref tqB, .ref tqC, .long ta, .long tb, .long tc, .long tp, .long tq, .long tr, .long ts, .int tsome, .ref tqL, .int tlet, .ref tqW, .ref tqO])), (tqA, .inl (cyJ, 40, .inr (.inl v3))), (tqB, .inl (cyJ, 40, .inr (.inl v4))), (tqC, .inl (cyJ, 40, .inr (.inl v5))), (tqL, .inl (cyJ, 7, .inr (.inl tlast))), (tqW, .inl (cyC, 40, .inl twd)), (tqO, .inl (cyI, 5, .inl topn))] → va_S A s.heap H locs → lv_has ls 8 [(3, .int v1), (2, .int v2), (0, .ref th), (1, .int p0)] → W p l e (headSpec wsX4_list { frames := 3, cells := 0, slots := 0, locals := 73 }).room s m ([Value.ref th, Value.int p0] : List Value).toArray below meth c H locs 0 0 QQ (F0 m 4 ls []) := by
    intro n4
    induction n4 with
    | zero =>
      intro v1 v2 v3 v4 v5 H locs ls h
      exact nomatch (show (none : Option (Int32 × Int32 × Int32 × (Nat → Int64) × (Nat → Int64) × (Nat → Int64))) = some _ from h)
    | succ n4 ih4 =>
      intro v1 v2 v3 v4 v5 H locs ls h hP hD hS hl
      rw [f_X4_list_L4] at h
      refine lv_iload_n hx hb dX4_list_4 rfl (lv_at hl 0 rfl) ?_
      refine lv_bipush (v := 27) hx hb dX4_list_5 (by decide) ?_
      refine lv_icmp_ge (tgt := 160) hx hb dX4_list_7 (by decide) (fun hc6 => ?_) (fun hc6 => ?_)
      · have h := dm_t hc6 h
        refine lv_aload_n hx hb dX4_list_160 rfl (lv_at hl 2 rfl) ?_
        refine lv_iload_n hx hb dX4_list_161 rfl (lv_at hl 3 rfl) ?_
        refine va_put (D := (dC, dI)) (ci := 4) (v := .int p0) (ty := .int) (C := RX4) (T := TX4) (N := 18) hx hb hts hinX4 tyX4 tyX4_ok nmX4 hown hK hP hD hS 0 rfl rfl 1 (by decide) (hts (.fieldLink RX4 7 "FormDeskModel" "d" "I") (by decide +kernel)) (fun _ h9 => h9) rfl (by decide +kernel) rfl rfl (Nat.le_of_ble_eq_true rfl) dX4_list_162 (fun H locs hP hD hS => ?_)
        have hP : va_P (dC, dI) vwCl [(th, .inr (4, [.int tthr, .int p0, .int tn, .ref tqA, .ref tqB, .ref tqC, .long ta, .long tb, .long tc, .long tp, .long tq, .long tr, .long ts, .int tsome, .ref tqL, .int tlet, .ref tqW, .ref tqO])), (tqA, .inl (cyJ, 40, .inr (.inl v3))), (tqB, .inl (cyJ, 40, .inr (.inl v4))), (tqC, .inl (cyJ, 40, .inr (.inl v5))), (tqL, .inl (cyJ, 7, .inr (.inl tlast))), (tqW, .inl (cyC, 40, .inl twd)), (tqO, .inl (cyI, 5, .inl topn))] H := hP
        have hD : va_D A [(th, .inr (4, [.int tthr, .int p0, .int tn, .ref tqA, .ref tqB, .ref tqC, .long ta, .long tb, .long tc, .long tp, .long tq, .long tr, .long ts, .int tsome, .ref tqL, .int tlet, .ref tqW, .ref tqO])), (tqA, .inl (cyJ, 40, .inr (.inl v3))), (tqB, .inl (cyJ, 40, .inr (.inl v4))), (tqC, .inl (cyJ, 40, .inr (.inl v5))), (tqL, .inl (cyJ, 7, .inr (.inl tlast))), (tqW, .inl (cyC, 40, .inl twd)), (tqO, .inl (cyI, 5, .inl topn))] := hD
        refine lv_aload_n hx hb dX4_list_165 rfl (lv_at hl 2 rfl) ?_
        refine lv_iload_n hx hb dX4_list_166 rfl (lv_at hl 1 rfl) ?_
        refine va_put (D := (dC, dI)) (ci := 4) (v := .int v2) (ty := .int) (C := RX4) (T := TX4) (N := 18) hx hb hts hinX4 tyX4 tyX4_ok nmX4 hown hK hP hD hS 0 rfl rfl 2 (by decide) (hts (.fieldLink RX4 56 "FormDeskModel" "classes" "I") (by decide +kernel)) (fun _ h9 => h9) rfl (by decide +kernel) rfl rfl (Nat.le_of_ble_eq_true rfl) dX4_list_167 (fun H locs hP hD hS => ?_)
        have hP : va_P (dC, dI) vwCl [(th, .inr (4, [.int tthr, .int p0, .int v2, .ref tqA, .ref tqB, .ref tqC, .long ta, .long tb, .long tc, .long tp, .long tq, .long tr, .long ts, .int tsome, .ref tqL, .int tlet, .ref tqW, .ref tqO])), (tqA, .inl (cyJ, 40, .inr (.inl v3))), (tqB, .inl (cyJ, 40, .inr (.inl v4))), (tqC, .inl (cyJ, 40, .inr (.inl v5))), (tqL, .inl (cyJ, 7, .inr (.inl tlast))), (tqW, .inl (cyC, 40, .inl twd)), (tqO, .inl (cyI, 5, .inl topn))] H := hP
        have hD : va_D A [(th, .inr (4, [.int tthr, .int p0, .int v2, .ref tqA, .ref tqB, .ref tqC, .long ta, .long tb, .long tc, .long tp, .long tq, .long tr, .long ts, .int tsome, .ref tqL, .int tlet, .ref tqW, .ref tqO])), (tqA, .inl (cyJ, 40, .inr (.inl v3))), (tqB, .inl (cyJ, 40, .inr (.inl v4))), (tqC, .inl (cyJ, 40, .inr (.inl v5))), (tqL, .inl (cyJ, 7, .inr (.inl tlast))), (tqW, .inl (cyC, 40, .inl twd)), (tqO, .inl (cyI, 5, .inl topn))] := hD
        refine lv_iload_n hx hb dX4_list_170 rfl (lv_at hl 1 rfl) ?_
        obtain ⟨hE0, hE1, hE2, hE3, hE4, hE5⟩ := dm_i6 h
        subst hE0; subst hE1; subst hE2; subst hE3; subst hE4; subst hE5
        rw [hQQ]
        have hP9 := hP.sub (ws' := [(th, .inr (4, [.int tthr, .int p0, .int v2, .ref tqA, .ref tqB, .ref tqC, .long ta, .long tb, .long tc, .long tp, .long tq, .long tr, .long ts, .int tsome, .ref tqL, .int tlet, .ref tqW, .ref tqO])), (tqA, .inl (cyJ, 40, .inr (.inl v3))), (tqB, .inl (cyJ, 40, .inr (.inl v4))), (tqC, .inl (cyJ, 40, .inr (.inl v5))), (tqL, .inl (cyJ, 7, .inr (.inl tlast))), (tqW, .inl (cyC, 40, .inl twd)), (tqO, .inl (cyI, 5, .inl topn))]) [0, 1, 2, 3, 4, 5, 6] rfl
        have hD9 := hD.sub (ws' := [(th, .inr (4, [.int tthr, .int p0, .int v2, .ref tqA, .ref tqB, .ref tqC, .long ta, .long tb, .long tc, .long tp, .long tq, .long tr, .long ts, .int tsome, .ref tqL, .int tlet, .ref tqW, .ref tqO])), (tqA, .inl (cyJ, 40, .inr (.inl v3))), (tqB, .inl (cyJ, 40, .inr (.inl v4))), (tqC, .inl (cyJ, 40, .inr (.inl v5))), (tqL, .inl (cyJ, 7, .inr (.inl tlast))), (tqW, .inl (cyC, 40, .inl twd)), (tqO, .inl (cyI, 5, .inl topn))]) [0, 1, 2, 3, 4, 5, 6] (by decide) rfl
        exact W.iret (v := v2) hx hb hr (fun t ht hW => ⟨⟨v2, (), rfl, rfl, by rw [ht]; exact hP9, hD9⟩, hS.F ht⟩) hS.2.2 dX4_list_171
      · have h := dm_f hc6 h
        refine lv_iconst (v := 0) hx hb dX4_list_10 (by decide) ?_
        refine lv_istore (lv' := [(4, .int (0 : Int32)), (3, .int v1), (2, .int v2), (0, .ref th), (1, .int p0)]) hx hb dX4_list_11 hl (by decide) rfl (fun ls hl => ?_)
        have L13 : ∀ (n13 : Nat) (v7 : Int32) (v8 : Int32) (v9 : Nat → Int64) (v10 : Nat → Int64) (v11 : Nat → Int64) (H : Heap) (locs : List Loc) (ls : Array Slot), f_X4_list_L13 p0 v1 (fun o0 o1 o2 o3 o4 => f_X4_list_L4 p0 n4 o0 o1 o2 o3 o4) n13 v7 v8 v9 v10 v11 = some (rv, tdd', tn', tla', tlb', tlc') → va_P (dC, dI) vwCl [(th, .inr (4, [.int tthr, .int tdd, .int tn, .ref tqA, .ref tqB, .ref tqC, .long ta, .long tb, .long tc, .long tp, .long tq, .long tr, .long ts, .int tsome, .ref tqL, .int tlet, .ref tqW, .ref tqO])), (tqA, .inl (cyJ, 40, .inr (.inl v9))), (tqB, .inl (cyJ, 40, .inr (.inl v10))), (tqC, .inl (cyJ, 40, .inr (.inl v11))), (tqL, .inl (cyJ, 7, .inr (.inl tlast))), (tqW, .inl (cyC, 40, .inl twd)), (tqO, .inl (cyI, 5, .inl topn))] H → va_D A [(th, .inr (4, [.int tthr, .int tdd, .int tn, .ref tqA, .ref tqB, .ref tqC, .long ta, .long tb, .long tc, .long tp, .long tq, .long tr, .long ts, .int tsome, .ref tqL, .int tlet, .ref tqW, .ref tqO])), (tqA, .inl (cyJ, 40, .inr (.inl v9))), (tqB, .inl (cyJ, 40, .inr (.inl v10))), (tqC, .inl (cyJ, 40, .inr (.inl v11))), (tqL, .inl (cyJ, 7, .inr (.inl tlast))), (tqW, .inl (cyC, 40, .inl twd)), (tqO, .inl (cyI, 5, .inl topn))] → va_S A s.heap H locs → lv_has ls 8 [(4, .int v7), (3, .int v1), (2, .int v8), (0, .ref th), (1, .int p0)] → W p l e (headSpec wsX4_list { frames := 3, cells := 0, slots := 0, locals := 73 }).room s m ([Value.ref th, Value.int p0] : List Value).toArray below meth c H locs 0 0 QQ (F0 m 13 ls []) := by
          intro n13
          induction n13 with
          | zero =>
            intro v7 v8 v9 v10 v11 H locs ls h
            exact nomatch (show (none : Option (Int32 × Int32 × Int32 × (Nat → Int64) × (Nat → Int64) × (Nat → Int64))) = some _ from h)
          | succ n13 ih13 =>
            intro v7 v8 v9 v10 v11 H locs ls h hP hD hS hl
            rw [f_X4_list_L13] at h
            refine lv_iload hx hb dX4_list_13 (lv_at hl 0 rfl) ?_
            refine lv_iconst (v := 2) hx hb dX4_list_15 (by decide) ?_
            refine lv_iload_n hx hb dX4_list_16 rfl (lv_at hl 1 rfl) ?_
            refine lv_imul hx hb dX4_list_17 ?_
            refine lv_iconst (v := 1) hx hb dX4_list_18 (by decide) ?_
            refine lv_iadd hx hb dX4_list_19 ?_
            refine lv_icmp_ge (tgt := 154) hx hb dX4_list_20 (by decide) (fun hc12 => ?_) (fun hc12 => ?_)
            · have h := dm_t hc12 h
              obtain ⟨x13, ex13⟩ : ∃ y : Int32, y = (v1 + (1 : Int32)) := ⟨_, rfl⟩
              have h := dm_lu ex13 h
              refine lv_iinc (v := x13) (lv' := [(3, .int x13), (4, .int v7), (2, .int v8), (0, .ref th), (1, .int p0)]) hx hb dX4_list_154 hl (k := 1) rfl (by rw [ex13]; rfl) (by decide) rfl (fun ls hl => ?_)
              refine lv_goto (tgt := 4) hx hb dX4_list_157 (by decide) ?_
              exact ih4 x13 v8 v9 v10 v11 H _ ls h (hP.sub [0, 1, 2, 3, 4, 5, 6] rfl) (hD.sub [0, 1, 2, 3, 4, 5, 6] (by decide) rfl) hS (lv_sub hl [0, 2, 3, 4] rfl)
            · have h := dm_f hc12 h
              refine lv_iload hx hb dX4_list_23 (lv_at hl 0 rfl) ?_
              refine lv_if_ne (tgt := 32) hx hb dX4_list_25 (by decide) (fun hc14 => ?_) (fun hc14 => ?_)
              · have h := dm_f hc14 h
                refine lv_iload hx hb dX4_list_32 (lv_at hl 0 rfl) ?_
                refine lv_iconst (v := 2) hx hb dX4_list_34 (by decide) ?_
                refine lv_irem hx hb dX4_list_35 (by decide) ?_
                refine lv_iconst (v := 1) hx hb dX4_list_36 (by decide) ?_
                refine lv_icmp_ne (tgt := 49) hx hb dX4_list_37 (by decide) (fun hc15 => ?_) (fun hc15 => ?_)
                · have h := dm_f hc15 h
                  refine lv_iload hx hb dX4_list_49 (lv_at hl 0 rfl) ?_
                  refine lv_ineg hx hb dX4_list_51 ?_
                  refine lv_iconst (v := 2) hx hb dX4_list_52 (by decide) ?_
                  refine lv_idiv hx hb dX4_list_53 (by decide) ?_
                  refine lv_topi (fun x16 ex16 => ?_)
                  have h := dm_lu ex16 h
                  refine lv_istore (lv' := [(5, .int x16), (4, .int v7), (3, .int v1), (2, .int v8), (0, .ref th), (1, .int p0)]) hx hb dX4_list_54 hl (by decide) rfl (fun ls hl => ?_)
                  refine lv_iload hx hb dX4_list_56 (lv_at hl 0 rfl) ?_
                  refine lv_iload hx hb dX4_list_58 (lv_at hl 0 rfl) ?_
                  refine lv_imul hx hb dX4_list_60 ?_
                  refine lv_iload_n hx hb dX4_list_61 rfl (lv_at hl 5 rfl) ?_
                  refine lv_isub hx hb dX4_list_62 ?_
                  refine lv_topi (fun x17 ex17 => ?_)
                  have h := dm_lu ex17 h
                  refine lv_istore (lv' := [(6, .int x17), (5, .int x16), (4, .int v7), (3, .int v1), (2, .int v8), (0, .ref th), (1, .int p0)]) hx hb dX4_list_63 hl (by decide) rfl (fun ls hl => ?_)
                  refine lv_iload hx hb dX4_list_65 (lv_at hl 0 rfl) ?_
                  refine lv_iconst (v := 4) hx hb dX4_list_67 (by decide) ?_
                  refine lv_iload_n hx hb dX4_list_68 rfl (lv_at hl 3 rfl) ?_
                  refine lv_imul hx hb dX4_list_69 ?_
                  obtain ⟨hn18, h⟩ := dm_gs h
                  refine lv_idiv hx hb dX4_list_70 hn18 ?_
                  refine lv_topi (fun x19 ex19 => ?_)
                  have h := dm_lu ex19 h
                  refine lv_istore (lv' := [(7, .int x19), (6, .int x17), (5, .int x16), (4, .int v7), (3, .int v1), (2, .int v8), (0, .ref th), (1, .int p0)]) hx hb dX4_list_71 hl (by decide) rfl (fun ls hl => ?_)
                  refine lv_iload hx hb dX4_list_73 (lv_at hl 1 rfl) ?_
                  refine lv_iconst (v := 4) hx hb dX4_list_75 (by decide) ?_
                  refine lv_iload_n hx hb dX4_list_76 rfl (lv_at hl 4 rfl) ?_
                  refine lv_imul hx hb dX4_list_77 ?_
                  obtain ⟨hn20, h⟩ := dm_gs h
                  refine lv_irem hx hb dX4_list_78 hn20 ?_
                  refine lv_if_ne (tgt := 148) hx hb dX4_list_79 (by decide) (fun hc21 => ?_) (fun hc21 => ?_)
                  · have h := dm_f hc21 h
                    obtain ⟨x22, ex22⟩ : ∃ y : Int32, y = (v7 + (1 : Int32)) := ⟨_, rfl⟩
                    have h := dm_lu ex22 h
                    refine lv_iinc (v := x22) (lv' := [(4, .int x22), (7, .int x19), (6, .int x17), (5, .int x16), (3, .int v1), (2, .int v8), (0, .ref th), (1, .int p0)]) hx hb dX4_list_148 hl (k := 3) rfl (by rw [ex22]; rfl) (by decide) rfl (fun ls hl => ?_)
                    refine lv_goto (tgt := 13) hx hb dX4_list_151 (by decide) ?_
                    exact ih13 x22 v8 v9 v10 v11 H _ ls h (hP.sub [0, 1, 2, 3, 4, 5, 6] rfl) (hD.sub [0, 1, 2, 3, 4, 5, 6] (by decide) rfl) hS (lv_sub hl [0, 4, 5, 6, 7] rfl)
                  · have h := dm_t hc21 h
                    refine lv_iload_n hx hb dX4_list_82 rfl (lv_at hl 4 rfl) ?_
                    refine lv_i2l (v := (v1).toInt64) hx hb dX4_list_83 rfl ?_
                    refine lv_iload hx hb dX4_list_84 (lv_at hl 2 rfl) ?_
                    refine lv_i2l (v := (x16).toInt64) hx hb dX4_list_86 rfl ?_
                    refine lv_iload hx hb dX4_list_87 (lv_at hl 0 rfl) ?_
                    refine lv_i2l (v := (x19).toInt64) hx hb dX4_list_89 rfl ?_
                    obtain ⟨r23, hk24, h⟩ := dm_b1s h
                    refine mc_i (wr := [(th, .inr (4, [.int tthr, .int tdd, .int tn, .ref tqA, .ref tqB, .ref tqC, .long ta, .long tb, .long tc, .long tp, .long tq, .long tr, .long ts, .int tsome, .ref tqL, .int tlet, .ref tqW, .ref tqO])), (tqA, .inl (cyJ, 40, .inr (.inl v9))), (tqB, .inl (cyJ, 40, .inr (.inl v10))), (tqC, .inl (cyJ, 40, .inr (.inl v11))), (tqL, .inl (cyJ, 7, .inr (.inl tlast))), (tqW, .inl (cyC, 40, .inl twd)), (tqO, .inl (cyI, 5, .inl topn))]) (va_runS (As := [.long (v1).toInt64, .long (x16).toInt64, .long (x19).toInt64]) (rest := []) ⟨hx, hb, hml, hown, hts⟩ (c_X4_isReduced l dC dI cyI cyJ cyC H.size (v1).toInt64 (x16).toInt64 (x19).toInt64 r23 hk24) (va_cwS 3 hts gX4_list_X4_isReduced rfl rfl rfl (by decide +kernel) ⟨(Nat.le_of_ble_eq_true rfl), (Nat.le_of_ble_eq_true rfl)⟩) (mc_preS hK (hP.sub (ws' := []) [] rfl) (hD.sub (ws' := []) [] (by decide) rfl) hnw) rfl rfl hl.1 rfl (lv_room (Nat.le_of_ble_eq_true rfl)) dX4_list_90 ⟨Nat.zero_le _, Nat.zero_le _⟩) hP hD hS hA [] [0, 1, 2, 3, 4, 5, 6] rfl rfl rfl (by decide) (fun H locs hP hD hS => ?_)
                    have hP : va_P (dC, dI) vwCl [(th, .inr (4, [.int tthr, .int tdd, .int tn, .ref tqA, .ref tqB, .ref tqC, .long ta, .long tb, .long tc, .long tp, .long tq, .long tr, .long ts, .int tsome, .ref tqL, .int tlet, .ref tqW, .ref tqO])), (tqA, .inl (cyJ, 40, .inr (.inl v9))), (tqB, .inl (cyJ, 40, .inr (.inl v10))), (tqC, .inl (cyJ, 40, .inr (.inl v11))), (tqL, .inl (cyJ, 7, .inr (.inl tlast))), (tqW, .inl (cyC, 40, .inl twd)), (tqO, .inl (cyI, 5, .inl topn))] H := hP
                    have hD : va_D A [(th, .inr (4, [.int tthr, .int tdd, .int tn, .ref tqA, .ref tqB, .ref tqC, .long ta, .long tb, .long tc, .long tp, .long tq, .long tr, .long ts, .int tsome, .ref tqL, .int tlet, .ref tqW, .ref tqO])), (tqA, .inl (cyJ, 40, .inr (.inl v9))), (tqB, .inl (cyJ, 40, .inr (.inl v10))), (tqC, .inl (cyJ, 40, .inr (.inl v11))), (tqL, .inl (cyJ, 7, .inr (.inl tlast))), (tqW, .inl (cyC, 40, .inl twd)), (tqO, .inl (cyI, 5, .inl topn))] := hD
                    refine lv_if_eq (tgt := 148) hx hb dX4_list_93 (by decide) (fun hc25 => ?_) (fun hc25 => ?_)
                    · have h := dm_t hc25 h
                      obtain ⟨x26, ex26⟩ : ∃ y : Int32, y = (v7 + (1 : Int32)) := ⟨_, rfl⟩
                      have h := dm_lu ex26 h
                      refine lv_iinc (v := x26) (lv' := [(4, .int x26), (7, .int x19), (6, .int x17), (5, .int x16), (3, .int v1), (2, .int v8), (0, .ref th), (1, .int p0)]) hx hb dX4_list_148 hl (k := 3) rfl (by rw [ex26]; rfl) (by decide) rfl (fun ls hl => ?_)
                      refine lv_goto (tgt := 13) hx hb dX4_list_151 (by decide) ?_
                      exact ih13 x26 v8 v9 v10 v11 H _ ls h (hP.sub [0, 1, 2, 3, 4, 5, 6] rfl) (hD.sub [0, 1, 2, 3, 4, 5, 6] (by decide) rfl) hS (lv_sub hl [0, 4, 5, 6, 7] rfl)
                    · have h := dm_f hc25 h
                      refine lv_iload_n hx hb dX4_list_96 rfl (lv_at hl 4 rfl) ?_
                      refine lv_i2l (v := (v1).toInt64) hx hb dX4_list_97 rfl ?_
                      refine lv_iload hx hb dX4_list_98 (lv_at hl 2 rfl) ?_
                      refine lv_i2l (v := (x16).toInt64) hx hb dX4_list_100 rfl ?_
                      refine lv_iload hx hb dX4_list_101 (lv_at hl 0 rfl) ?_
                      refine lv_i2l (v := (x19).toInt64) hx hb dX4_list_103 rfl ?_
                      obtain ⟨r27, hk28, h⟩ := dm_b1s h
                      refine mc_i (wr := [(th, .inr (4, [.int tthr, .int tdd, .int tn, .ref tqA, .ref tqB, .ref tqC, .long ta, .long tb, .long tc, .long tp, .long tq, .long tr, .long ts, .int tsome, .ref tqL, .int tlet, .ref tqW, .ref tqO])), (tqA, .inl (cyJ, 40, .inr (.inl v9))), (tqB, .inl (cyJ, 40, .inr (.inl v10))), (tqC, .inl (cyJ, 40, .inr (.inl v11))), (tqL, .inl (cyJ, 7, .inr (.inl tlast))), (tqW, .inl (cyC, 40, .inl twd)), (tqO, .inl (cyI, 5, .inl topn))]) (va_runS (As := [.long (v1).toInt64, .long (x16).toInt64, .long (x19).toInt64]) (rest := []) ⟨hx, hb, hml, hown, hts⟩ (c_X4_primitive l dC dI cyI cyJ cyC H.size (v1).toInt64 (x16).toInt64 (x19).toInt64 r27 hk28) (va_cwS 3 hts gX4_list_X4_primitive rfl rfl rfl (by decide +kernel) ⟨(Nat.le_of_ble_eq_true rfl), (Nat.le_of_ble_eq_true rfl)⟩) (mc_preS hK (hP.sub (ws' := []) [] rfl) (hD.sub (ws' := []) [] (by decide) rfl) hnw) rfl rfl hl.1 rfl (lv_room (Nat.le_of_ble_eq_true rfl)) dX4_list_104 ⟨Nat.zero_le _, Nat.zero_le _⟩) hP hD hS hA [] [0, 1, 2, 3, 4, 5, 6] rfl rfl rfl (by decide) (fun H locs hP hD hS => ?_)
                      have hP : va_P (dC, dI) vwCl [(th, .inr (4, [.int tthr, .int tdd, .int tn, .ref tqA, .ref tqB, .ref tqC, .long ta, .long tb, .long tc, .long tp, .long tq, .long tr, .long ts, .int tsome, .ref tqL, .int tlet, .ref tqW, .ref tqO])), (tqA, .inl (cyJ, 40, .inr (.inl v9))), (tqB, .inl (cyJ, 40, .inr (.inl v10))), (tqC, .inl (cyJ, 40, .inr (.inl v11))), (tqL, .inl (cyJ, 7, .inr (.inl tlast))), (tqW, .inl (cyC, 40, .inl twd)), (tqO, .inl (cyI, 5, .inl topn))] H := hP
                      have hD : va_D A [(th, .inr (4, [.int tthr, .int tdd, .int tn, .ref tqA, .ref tqB, .ref tqC, .long ta, .long tb, .long tc, .long tp, .long tq, .long tr, .long ts, .int tsome, .ref tqL, .int tlet, .ref tqW, .ref tqO])), (tqA, .inl (cyJ, 40, .inr (.inl v9))), (tqB, .inl (cyJ, 40, .inr (.inl v10))), (tqC, .inl (cyJ, 40, .inr (.inl v11))), (tqL, .inl (cyJ, 7, .inr (.inl tlast))), (tqW, .inl (cyC, 40, .inl twd)), (tqO, .inl (cyI, 5, .inl topn))] := hD
                      refine lv_if_ne (tgt := 113) hx hb dX4_list_107 (by decide) (fun hc29 => ?_) (fun hc29 => ?_)
                      · have h := dm_f hc29 h
                        refine lv_iload_n hx hb dX4_list_113 rfl (lv_at hl 5 rfl) ?_
                        refine lv_bipush (v := 40) hx hb dX4_list_114 (by decide) ?_
                        refine lv_icmp_ge (tgt := 145) hx hb dX4_list_116 (by decide) (fun hc30 => ?_) (fun hc30 => ?_)
                        · have h := dm_t hc30 h
                          obtain ⟨x31, ex31⟩ : ∃ y : Int32, y = (v8 + (1 : Int32)) := ⟨_, rfl⟩
                          have h := dm_lu ex31 h
                          refine lv_iinc (v := x31) (lv' := [(2, .int x31), (7, .int x19), (6, .int x17), (5, .int x16), (4, .int v7), (3, .int v1), (0, .ref th), (1, .int p0)]) hx hb dX4_list_145 hl (k := 5) rfl (by rw [ex31]; rfl) (by decide) rfl (fun ls hl => ?_)
                          obtain ⟨x32, ex32⟩ : ∃ y : Int32, y = (v7 + (1 : Int32)) := ⟨_, rfl⟩
                          have h := dm_lu ex32 h
                          refine lv_iinc (v := x32) (lv' := [(4, .int x32), (2, .int x31), (7, .int x19), (6, .int x17), (5, .int x16), (3, .int v1), (0, .ref th), (1, .int p0)]) hx hb dX4_list_148 hl (k := 4) rfl (by rw [ex32]; rfl) (by decide) rfl (fun ls hl => ?_)
                          refine lv_goto (tgt := 13) hx hb dX4_list_151 (by decide) ?_
                          exact ih13 x32 x31 v9 v10 v11 H _ ls h (hP.sub [0, 1, 2, 3, 4, 5, 6] rfl) (hD.sub [0, 1, 2, 3, 4, 5, 6] (by decide) rfl) hS (lv_sub hl [0, 5, 1, 6, 7] rfl)
                        · have h := dm_f hc30 h
                          refine lv_aload_n hx hb dX4_list_119 rfl (lv_at hl 6 rfl) ?_
                          refine va_get (D := (dC, dI)) (ci := 4) (v := .ref tqA) (C := RX4) (T := TX4) (N := 18) hx hb hts hinX4 hown hK hP 0 rfl rfl 3 (by decide) (hts (.fieldLink RX4 13 "FormDeskModel" "listA" "[J") (by decide +kernel)) (fun _ h9 => h9) rfl dX4_list_120 ?_
                          refine lv_iload_n hx hb dX4_list_123 rfl (lv_at hl 5 rfl) ?_
                          refine lv_iload_n hx hb dX4_list_124 rfl (lv_at hl 4 rfl) ?_
                          refine lv_i2l (v := (v1).toInt64) hx hb dX4_list_125 rfl ?_
                          refine lv_topl (fun x33 ex33 => ?_)
                          have h := dm_lu ex33 h
                          obtain ⟨hn34, h⟩ := dm_gs h
                          refine va_last hx hb hK hP hD hS 1 1 rfl rfl hn34 dX4_list_126 (fun H locs hP hD hS => ?_)
                          have hP : va_P (dC, dI) vwCl [(th, .inr (4, [.int tthr, .int tdd, .int tn, .ref tqA, .ref tqB, .ref tqC, .long ta, .long tb, .long tc, .long tp, .long tq, .long tr, .long ts, .int tsome, .ref tqL, .int tlet, .ref tqW, .ref tqO])), (tqA, .inl (cyJ, 40, .inr (.inl (vp_updL v9 (v8).toNatClampNeg x33)))), (tqB, .inl (cyJ, 40, .inr (.inl v10))), (tqC, .inl (cyJ, 40, .inr (.inl v11))), (tqL, .inl (cyJ, 7, .inr (.inl tlast))), (tqW, .inl (cyC, 40, .inl twd)), (tqO, .inl (cyI, 5, .inl topn))] H := hP
                          have hD : va_D A [(th, .inr (4, [.int tthr, .int tdd, .int tn, .ref tqA, .ref tqB, .ref tqC, .long ta, .long tb, .long tc, .long tp, .long tq, .long tr, .long ts, .int tsome, .ref tqL, .int tlet, .ref tqW, .ref tqO])), (tqA, .inl (cyJ, 40, .inr (.inl (vp_updL v9 (v8).toNatClampNeg x33)))), (tqB, .inl (cyJ, 40, .inr (.inl v10))), (tqC, .inl (cyJ, 40, .inr (.inl v11))), (tqL, .inl (cyJ, 7, .inr (.inl tlast))), (tqW, .inl (cyC, 40, .inl twd)), (tqO, .inl (cyI, 5, .inl topn))] := hD
                          refine lv_aload_n hx hb dX4_list_127 rfl (lv_at hl 6 rfl) ?_
                          refine va_get (D := (dC, dI)) (ci := 4) (v := .ref tqB) (C := RX4) (T := TX4) (N := 18) hx hb hts hinX4 hown hK hP 0 rfl rfl 4 (by decide) (hts (.fieldLink RX4 17 "FormDeskModel" "listB" "[J") (by decide +kernel)) (fun _ h9 => h9) rfl dX4_list_128 ?_
                          refine lv_iload_n hx hb dX4_list_131 rfl (lv_at hl 5 rfl) ?_
                          refine lv_iload hx hb dX4_list_132 (lv_at hl 2 rfl) ?_
                          refine lv_i2l (v := (x16).toInt64) hx hb dX4_list_134 rfl ?_
                          refine lv_topl (fun x35 ex35 => ?_)
                          have h := dm_lu ex35 h
                          obtain ⟨hn36, h⟩ := dm_gs h
                          refine va_last hx hb hK hP hD hS 2 1 rfl rfl hn36 dX4_list_135 (fun H locs hP hD hS => ?_)
                          have hP : va_P (dC, dI) vwCl [(th, .inr (4, [.int tthr, .int tdd, .int tn, .ref tqA, .ref tqB, .ref tqC, .long ta, .long tb, .long tc, .long tp, .long tq, .long tr, .long ts, .int tsome, .ref tqL, .int tlet, .ref tqW, .ref tqO])), (tqA, .inl (cyJ, 40, .inr (.inl (vp_updL v9 (v8).toNatClampNeg x33)))), (tqB, .inl (cyJ, 40, .inr (.inl (vp_updL v10 (v8).toNatClampNeg x35)))), (tqC, .inl (cyJ, 40, .inr (.inl v11))), (tqL, .inl (cyJ, 7, .inr (.inl tlast))), (tqW, .inl (cyC, 40, .inl twd)), (tqO, .inl (cyI, 5, .inl topn))] H := hP
                          have hD : va_D A [(th, .inr (4, [.int tthr, .int tdd, .int tn, .ref tqA, .ref tqB, .ref tqC, .long ta, .long tb, .long tc, .long tp, .long tq, .long tr, .long ts, .int tsome, .ref tqL, .int tlet, .ref tqW, .ref tqO])), (tqA, .inl (cyJ, 40, .inr (.inl (vp_updL v9 (v8).toNatClampNeg x33)))), (tqB, .inl (cyJ, 40, .inr (.inl (vp_updL v10 (v8).toNatClampNeg x35)))), (tqC, .inl (cyJ, 40, .inr (.inl v11))), (tqL, .inl (cyJ, 7, .inr (.inl tlast))), (tqW, .inl (cyC, 40, .inl twd)), (tqO, .inl (cyI, 5, .inl topn))] := hD
                          refine lv_aload_n hx hb dX4_list_136 rfl (lv_at hl 6 rfl) ?_
                          refine va_get (D := (dC, dI)) (ci := 4) (v := .ref tqC) (C := RX4) (T := TX4) (N := 18) hx hb hts hinX4 hown hK hP 0 rfl rfl 5 (by decide) (hts (.fieldLink RX4 20 "FormDeskModel" "listC" "[J") (by decide +kernel)) (fun _ h9 => h9) rfl dX4_list_137 ?_
                          refine lv_iload_n hx hb dX4_list_140 rfl (lv_at hl 5 rfl) ?_
                          refine lv_iload hx hb dX4_list_141 (lv_at hl 0 rfl) ?_
                          refine lv_i2l (v := (x19).toInt64) hx hb dX4_list_143 rfl ?_
                          refine lv_topl (fun x37 ex37 => ?_)
                          have h := dm_lu ex37 h
                          obtain ⟨hn38, h⟩ := dm_gs h
                          refine va_last hx hb hK hP hD hS 3 1 rfl rfl hn38 dX4_list_144 (fun H locs hP hD hS => ?_)
                          have hP : va_P (dC, dI) vwCl [(th, .inr (4, [.int tthr, .int tdd, .int tn, .ref tqA, .ref tqB, .ref tqC, .long ta, .long tb, .long tc, .long tp, .long tq, .long tr, .long ts, .int tsome, .ref tqL, .int tlet, .ref tqW, .ref tqO])), (tqA, .inl (cyJ, 40, .inr (.inl (vp_updL v9 (v8).toNatClampNeg x33)))), (tqB, .inl (cyJ, 40, .inr (.inl (vp_updL v10 (v8).toNatClampNeg x35)))), (tqC, .inl (cyJ, 40, .inr (.inl (vp_updL v11 (v8).toNatClampNeg x37)))), (tqL, .inl (cyJ, 7, .inr (.inl tlast))), (tqW, .inl (cyC, 40, .inl twd)), (tqO, .inl (cyI, 5, .inl topn))] H := hP
                          have hD : va_D A [(th, .inr (4, [.int tthr, .int tdd, .int tn, .ref tqA, .ref tqB, .ref tqC, .long ta, .long tb, .long tc, .long tp, .long tq, .long tr, .long ts, .int tsome, .ref tqL, .int tlet, .ref tqW, .ref tqO])), (tqA, .inl (cyJ, 40, .inr (.inl (vp_updL v9 (v8).toNatClampNeg x33)))), (tqB, .inl (cyJ, 40, .inr (.inl (vp_updL v10 (v8).toNatClampNeg x35)))), (tqC, .inl (cyJ, 40, .inr (.inl (vp_updL v11 (v8).toNatClampNeg x37)))), (tqL, .inl (cyJ, 7, .inr (.inl tlast))), (tqW, .inl (cyC, 40, .inl twd)), (tqO, .inl (cyI, 5, .inl topn))] := hD
                          obtain ⟨x39, ex39⟩ : ∃ y : Int32, y = (v8 + (1 : Int32)) := ⟨_, rfl⟩
                          have h := dm_lu ex39 h
                          refine lv_iinc (v := x39) (lv' := [(2, .int x39), (7, .int x19), (6, .int x17), (5, .int x16), (4, .int v7), (3, .int v1), (0, .ref th), (1, .int p0)]) hx hb dX4_list_145 hl (k := 5) rfl (by rw [ex39]; rfl) (by decide) rfl (fun ls hl => ?_)
                          obtain ⟨x40, ex40⟩ : ∃ y : Int32, y = (v7 + (1 : Int32)) := ⟨_, rfl⟩
                          have h := dm_lu ex40 h
                          refine lv_iinc (v := x40) (lv' := [(4, .int x40), (2, .int x39), (7, .int x19), (6, .int x17), (5, .int x16), (3, .int v1), (0, .ref th), (1, .int p0)]) hx hb dX4_list_148 hl (k := 4) rfl (by rw [ex40]; rfl) (by decide) rfl (fun ls hl => ?_)
                          refine lv_goto (tgt := 13) hx hb dX4_list_151 (by decide) ?_
                          exact ih13 x40 x39 (vp_updL v9 (v8).toNatClampNeg x33) (vp_updL v10 (v8).toNatClampNeg x35) (vp_updL v11 (v8).toNatClampNeg x37) H _ ls h (hP.sub [0, 1, 2, 3, 4, 5, 6] rfl) (hD.sub [0, 1, 2, 3, 4, 5, 6] (by decide) rfl) hS (lv_sub hl [0, 5, 1, 6, 7] rfl)
                      · have h := dm_t hc29 h
                        refine lv_goto (tgt := 148) hx hb dX4_list_110 (by decide) ?_
                        obtain ⟨x41, ex41⟩ : ∃ y : Int32, y = (v7 + (1 : Int32)) := ⟨_, rfl⟩
                        have h := dm_lu ex41 h
                        refine lv_iinc (v := x41) (lv' := [(4, .int x41), (7, .int x19), (6, .int x17), (5, .int x16), (3, .int v1), (2, .int v8), (0, .ref th), (1, .int p0)]) hx hb dX4_list_148 hl (k := 3) rfl (by rw [ex41]; rfl) (by decide) rfl (fun ls hl => ?_)
                        refine lv_goto (tgt := 13) hx hb dX4_list_151 (by decide) ?_
                        exact ih13 x41 v8 v9 v10 v11 H _ ls h (hP.sub [0, 1, 2, 3, 4, 5, 6] rfl) (hD.sub [0, 1, 2, 3, 4, 5, 6] (by decide) rfl) hS (lv_sub hl [0, 4, 5, 6, 7] rfl)
                · have h := dm_t hc15 h
                  refine lv_iload hx hb dX4_list_40 (lv_at hl 0 rfl) ?_
                  refine lv_iconst (v := 1) hx hb dX4_list_42 (by decide) ?_
                  refine lv_iadd hx hb dX4_list_43 ?_
                  refine lv_iconst (v := 2) hx hb dX4_list_44 (by decide) ?_
                  refine lv_idiv hx hb dX4_list_45 (by decide) ?_
                  refine lv_goto (tgt := 54) hx hb dX4_list_46 (by decide) ?_
                  refine lv_topi (fun x42 ex42 => ?_)
                  have h := dm_lu ex42 h
                  refine lv_istore (lv' := [(5, .int x42), (4, .int v7), (3, .int v1), (2, .int v8), (0, .ref th), (1, .int p0)]) hx hb dX4_list_54 hl (by decide) rfl (fun ls hl => ?_)
                  refine lv_iload hx hb dX4_list_56 (lv_at hl 0 rfl) ?_
                  refine lv_iload hx hb dX4_list_58 (lv_at hl 0 rfl) ?_
                  refine lv_imul hx hb dX4_list_60 ?_
                  refine lv_iload_n hx hb dX4_list_61 rfl (lv_at hl 5 rfl) ?_
                  refine lv_isub hx hb dX4_list_62 ?_
                  refine lv_topi (fun x43 ex43 => ?_)
                  have h := dm_lu ex43 h
                  refine lv_istore (lv' := [(6, .int x43), (5, .int x42), (4, .int v7), (3, .int v1), (2, .int v8), (0, .ref th), (1, .int p0)]) hx hb dX4_list_63 hl (by decide) rfl (fun ls hl => ?_)
                  refine lv_iload hx hb dX4_list_65 (lv_at hl 0 rfl) ?_
                  refine lv_iconst (v := 4) hx hb dX4_list_67 (by decide) ?_
                  refine lv_iload_n hx hb dX4_list_68 rfl (lv_at hl 3 rfl) ?_
                  refine lv_imul hx hb dX4_list_69 ?_
                  obtain ⟨hn44, h⟩ := dm_gs h
                  refine lv_idiv hx hb dX4_list_70 hn44 ?_
                  refine lv_topi (fun x45 ex45 => ?_)
                  have h := dm_lu ex45 h
                  refine lv_istore (lv' := [(7, .int x45), (6, .int x43), (5, .int x42), (4, .int v7), (3, .int v1), (2, .int v8), (0, .ref th), (1, .int p0)]) hx hb dX4_list_71 hl (by decide) rfl (fun ls hl => ?_)
                  refine lv_iload hx hb dX4_list_73 (lv_at hl 1 rfl) ?_
                  refine lv_iconst (v := 4) hx hb dX4_list_75 (by decide) ?_
                  refine lv_iload_n hx hb dX4_list_76 rfl (lv_at hl 4 rfl) ?_
                  refine lv_imul hx hb dX4_list_77 ?_
                  obtain ⟨hn46, h⟩ := dm_gs h
                  refine lv_irem hx hb dX4_list_78 hn46 ?_
                  refine lv_if_ne (tgt := 148) hx hb dX4_list_79 (by decide) (fun hc47 => ?_) (fun hc47 => ?_)
                  · have h := dm_f hc47 h
                    obtain ⟨x48, ex48⟩ : ∃ y : Int32, y = (v7 + (1 : Int32)) := ⟨_, rfl⟩
                    have h := dm_lu ex48 h
                    refine lv_iinc (v := x48) (lv' := [(4, .int x48), (7, .int x45), (6, .int x43), (5, .int x42), (3, .int v1), (2, .int v8), (0, .ref th), (1, .int p0)]) hx hb dX4_list_148 hl (k := 3) rfl (by rw [ex48]; rfl) (by decide) rfl (fun ls hl => ?_)
                    refine lv_goto (tgt := 13) hx hb dX4_list_151 (by decide) ?_
                    exact ih13 x48 v8 v9 v10 v11 H _ ls h (hP.sub [0, 1, 2, 3, 4, 5, 6] rfl) (hD.sub [0, 1, 2, 3, 4, 5, 6] (by decide) rfl) hS (lv_sub hl [0, 4, 5, 6, 7] rfl)
                  · have h := dm_t hc47 h
                    refine lv_iload_n hx hb dX4_list_82 rfl (lv_at hl 4 rfl) ?_
                    refine lv_i2l (v := (v1).toInt64) hx hb dX4_list_83 rfl ?_
                    refine lv_iload hx hb dX4_list_84 (lv_at hl 2 rfl) ?_
                    refine lv_i2l (v := (x42).toInt64) hx hb dX4_list_86 rfl ?_
                    refine lv_iload hx hb dX4_list_87 (lv_at hl 0 rfl) ?_
                    refine lv_i2l (v := (x45).toInt64) hx hb dX4_list_89 rfl ?_
                    obtain ⟨r49, hk50, h⟩ := dm_b1s h
                    refine mc_i (wr := [(th, .inr (4, [.int tthr, .int tdd, .int tn, .ref tqA, .ref tqB, .ref tqC, .long ta, .long tb, .long tc, .long tp, .long tq, .long tr, .long ts, .int tsome, .ref tqL, .int tlet, .ref tqW, .ref tqO])), (tqA, .inl (cyJ, 40, .inr (.inl v9))), (tqB, .inl (cyJ, 40, .inr (.inl v10))), (tqC, .inl (cyJ, 40, .inr (.inl v11))), (tqL, .inl (cyJ, 7, .inr (.inl tlast))), (tqW, .inl (cyC, 40, .inl twd)), (tqO, .inl (cyI, 5, .inl topn))]) (va_runS (As := [.long (v1).toInt64, .long (x42).toInt64, .long (x45).toInt64]) (rest := []) ⟨hx, hb, hml, hown, hts⟩ (c_X4_isReduced l dC dI cyI cyJ cyC H.size (v1).toInt64 (x42).toInt64 (x45).toInt64 r49 hk50) (va_cwS 3 hts gX4_list_X4_isReduced rfl rfl rfl (by decide +kernel) ⟨(Nat.le_of_ble_eq_true rfl), (Nat.le_of_ble_eq_true rfl)⟩) (mc_preS hK (hP.sub (ws' := []) [] rfl) (hD.sub (ws' := []) [] (by decide) rfl) hnw) rfl rfl hl.1 rfl (lv_room (Nat.le_of_ble_eq_true rfl)) dX4_list_90 ⟨Nat.zero_le _, Nat.zero_le _⟩) hP hD hS hA [] [0, 1, 2, 3, 4, 5, 6] rfl rfl rfl (by decide) (fun H locs hP hD hS => ?_)
                    have hP : va_P (dC, dI) vwCl [(th, .inr (4, [.int tthr, .int tdd, .int tn, .ref tqA, .ref tqB, .ref tqC, .long ta, .long tb, .long tc, .long tp, .long tq, .long tr, .long ts, .int tsome, .ref tqL, .int tlet, .ref tqW, .ref tqO])), (tqA, .inl (cyJ, 40, .inr (.inl v9))), (tqB, .inl (cyJ, 40, .inr (.inl v10))), (tqC, .inl (cyJ, 40, .inr (.inl v11))), (tqL, .inl (cyJ, 7, .inr (.inl tlast))), (tqW, .inl (cyC, 40, .inl twd)), (tqO, .inl (cyI, 5, .inl topn))] H := hP
                    have hD : va_D A [(th, .inr (4, [.int tthr, .int tdd, .int tn, .ref tqA, .ref tqB, .ref tqC, .long ta, .long tb, .long tc, .long tp, .long tq, .long tr, .long ts, .int tsome, .ref tqL, .int tlet, .ref tqW, .ref tqO])), (tqA, .inl (cyJ, 40, .inr (.inl v9))), (tqB, .inl (cyJ, 40, .inr (.inl v10))), (tqC, .inl (cyJ, 40, .inr (.inl v11))), (tqL, .inl (cyJ, 7, .inr (.inl tlast))), (tqW, .inl (cyC, 40, .inl twd)), (tqO, .inl (cyI, 5, .inl topn))] := hD
                    refine lv_if_eq (tgt := 148) hx hb dX4_list_93 (by decide) (fun hc51 => ?_) (fun hc51 => ?_)
                    · have h := dm_t hc51 h
                      obtain ⟨x52, ex52⟩ : ∃ y : Int32, y = (v7 + (1 : Int32)) := ⟨_, rfl⟩
                      have h := dm_lu ex52 h
                      refine lv_iinc (v := x52) (lv' := [(4, .int x52), (7, .int x45), (6, .int x43), (5, .int x42), (3, .int v1), (2, .int v8), (0, .ref th), (1, .int p0)]) hx hb dX4_list_148 hl (k := 3) rfl (by rw [ex52]; rfl) (by decide) rfl (fun ls hl => ?_)
                      refine lv_goto (tgt := 13) hx hb dX4_list_151 (by decide) ?_
                      exact ih13 x52 v8 v9 v10 v11 H _ ls h (hP.sub [0, 1, 2, 3, 4, 5, 6] rfl) (hD.sub [0, 1, 2, 3, 4, 5, 6] (by decide) rfl) hS (lv_sub hl [0, 4, 5, 6, 7] rfl)
                    · have h := dm_f hc51 h
                      refine lv_iload_n hx hb dX4_list_96 rfl (lv_at hl 4 rfl) ?_
                      refine lv_i2l (v := (v1).toInt64) hx hb dX4_list_97 rfl ?_
                      refine lv_iload hx hb dX4_list_98 (lv_at hl 2 rfl) ?_
                      refine lv_i2l (v := (x42).toInt64) hx hb dX4_list_100 rfl ?_
                      refine lv_iload hx hb dX4_list_101 (lv_at hl 0 rfl) ?_
                      refine lv_i2l (v := (x45).toInt64) hx hb dX4_list_103 rfl ?_
                      obtain ⟨r53, hk54, h⟩ := dm_b1s h
                      refine mc_i (wr := [(th, .inr (4, [.int tthr, .int tdd, .int tn, .ref tqA, .ref tqB, .ref tqC, .long ta, .long tb, .long tc, .long tp, .long tq, .long tr, .long ts, .int tsome, .ref tqL, .int tlet, .ref tqW, .ref tqO])), (tqA, .inl (cyJ, 40, .inr (.inl v9))), (tqB, .inl (cyJ, 40, .inr (.inl v10))), (tqC, .inl (cyJ, 40, .inr (.inl v11))), (tqL, .inl (cyJ, 7, .inr (.inl tlast))), (tqW, .inl (cyC, 40, .inl twd)), (tqO, .inl (cyI, 5, .inl topn))]) (va_runS (As := [.long (v1).toInt64, .long (x42).toInt64, .long (x45).toInt64]) (rest := []) ⟨hx, hb, hml, hown, hts⟩ (c_X4_primitive l dC dI cyI cyJ cyC H.size (v1).toInt64 (x42).toInt64 (x45).toInt64 r53 hk54) (va_cwS 3 hts gX4_list_X4_primitive rfl rfl rfl (by decide +kernel) ⟨(Nat.le_of_ble_eq_true rfl), (Nat.le_of_ble_eq_true rfl)⟩) (mc_preS hK (hP.sub (ws' := []) [] rfl) (hD.sub (ws' := []) [] (by decide) rfl) hnw) rfl rfl hl.1 rfl (lv_room (Nat.le_of_ble_eq_true rfl)) dX4_list_104 ⟨Nat.zero_le _, Nat.zero_le _⟩) hP hD hS hA [] [0, 1, 2, 3, 4, 5, 6] rfl rfl rfl (by decide) (fun H locs hP hD hS => ?_)
                      have hP : va_P (dC, dI) vwCl [(th, .inr (4, [.int tthr, .int tdd, .int tn, .ref tqA, .ref tqB, .ref tqC, .long ta, .long tb, .long tc, .long tp, .long tq, .long tr, .long ts, .int tsome, .ref tqL, .int tlet, .ref tqW, .ref tqO])), (tqA, .inl (cyJ, 40, .inr (.inl v9))), (tqB, .inl (cyJ, 40, .inr (.inl v10))), (tqC, .inl (cyJ, 40, .inr (.inl v11))), (tqL, .inl (cyJ, 7, .inr (.inl tlast))), (tqW, .inl (cyC, 40, .inl twd)), (tqO, .inl (cyI, 5, .inl topn))] H := hP
                      have hD : va_D A [(th, .inr (4, [.int tthr, .int tdd, .int tn, .ref tqA, .ref tqB, .ref tqC, .long ta, .long tb, .long tc, .long tp, .long tq, .long tr, .long ts, .int tsome, .ref tqL, .int tlet, .ref tqW, .ref tqO])), (tqA, .inl (cyJ, 40, .inr (.inl v9))), (tqB, .inl (cyJ, 40, .inr (.inl v10))), (tqC, .inl (cyJ, 40, .inr (.inl v11))), (tqL, .inl (cyJ, 7, .inr (.inl tlast))), (tqW, .inl (cyC, 40, .inl twd)), (tqO, .inl (cyI, 5, .inl topn))] := hD
                      refine lv_if_ne (tgt := 113) hx hb dX4_list_107 (by decide) (fun hc55 => ?_) (fun hc55 => ?_)
                      · have h := dm_f hc55 h
                        refine lv_iload_n hx hb dX4_list_113 rfl (lv_at hl 5 rfl) ?_
                        refine lv_bipush (v := 40) hx hb dX4_list_114 (by decide) ?_
                        refine lv_icmp_ge (tgt := 145) hx hb dX4_list_116 (by decide) (fun hc56 => ?_) (fun hc56 => ?_)
                        · have h := dm_t hc56 h
                          obtain ⟨x57, ex57⟩ : ∃ y : Int32, y = (v8 + (1 : Int32)) := ⟨_, rfl⟩
                          have h := dm_lu ex57 h
                          refine lv_iinc (v := x57) (lv' := [(2, .int x57), (7, .int x45), (6, .int x43), (5, .int x42), (4, .int v7), (3, .int v1), (0, .ref th), (1, .int p0)]) hx hb dX4_list_145 hl (k := 5) rfl (by rw [ex57]; rfl) (by decide) rfl (fun ls hl => ?_)
                          obtain ⟨x58, ex58⟩ : ∃ y : Int32, y = (v7 + (1 : Int32)) := ⟨_, rfl⟩
                          have h := dm_lu ex58 h
                          refine lv_iinc (v := x58) (lv' := [(4, .int x58), (2, .int x57), (7, .int x45), (6, .int x43), (5, .int x42), (3, .int v1), (0, .ref th), (1, .int p0)]) hx hb dX4_list_148 hl (k := 4) rfl (by rw [ex58]; rfl) (by decide) rfl (fun ls hl => ?_)
                          refine lv_goto (tgt := 13) hx hb dX4_list_151 (by decide) ?_
                          exact ih13 x58 x57 v9 v10 v11 H _ ls h (hP.sub [0, 1, 2, 3, 4, 5, 6] rfl) (hD.sub [0, 1, 2, 3, 4, 5, 6] (by decide) rfl) hS (lv_sub hl [0, 5, 1, 6, 7] rfl)
                        · have h := dm_f hc56 h
                          refine lv_aload_n hx hb dX4_list_119 rfl (lv_at hl 6 rfl) ?_
                          refine va_get (D := (dC, dI)) (ci := 4) (v := .ref tqA) (C := RX4) (T := TX4) (N := 18) hx hb hts hinX4 hown hK hP 0 rfl rfl 3 (by decide) (hts (.fieldLink RX4 13 "FormDeskModel" "listA" "[J") (by decide +kernel)) (fun _ h9 => h9) rfl dX4_list_120 ?_
                          refine lv_iload_n hx hb dX4_list_123 rfl (lv_at hl 5 rfl) ?_
                          refine lv_iload_n hx hb dX4_list_124 rfl (lv_at hl 4 rfl) ?_
                          refine lv_i2l (v := (v1).toInt64) hx hb dX4_list_125 rfl ?_
                          refine lv_topl (fun x59 ex59 => ?_)
                          have h := dm_lu ex59 h
                          obtain ⟨hn60, h⟩ := dm_gs h
                          refine va_last hx hb hK hP hD hS 1 1 rfl rfl hn60 dX4_list_126 (fun H locs hP hD hS => ?_)
                          have hP : va_P (dC, dI) vwCl [(th, .inr (4, [.int tthr, .int tdd, .int tn, .ref tqA, .ref tqB, .ref tqC, .long ta, .long tb, .long tc, .long tp, .long tq, .long tr, .long ts, .int tsome, .ref tqL, .int tlet, .ref tqW, .ref tqO])), (tqA, .inl (cyJ, 40, .inr (.inl (vp_updL v9 (v8).toNatClampNeg x59)))), (tqB, .inl (cyJ, 40, .inr (.inl v10))), (tqC, .inl (cyJ, 40, .inr (.inl v11))), (tqL, .inl (cyJ, 7, .inr (.inl tlast))), (tqW, .inl (cyC, 40, .inl twd)), (tqO, .inl (cyI, 5, .inl topn))] H := hP
                          have hD : va_D A [(th, .inr (4, [.int tthr, .int tdd, .int tn, .ref tqA, .ref tqB, .ref tqC, .long ta, .long tb, .long tc, .long tp, .long tq, .long tr, .long ts, .int tsome, .ref tqL, .int tlet, .ref tqW, .ref tqO])), (tqA, .inl (cyJ, 40, .inr (.inl (vp_updL v9 (v8).toNatClampNeg x59)))), (tqB, .inl (cyJ, 40, .inr (.inl v10))), (tqC, .inl (cyJ, 40, .inr (.inl v11))), (tqL, .inl (cyJ, 7, .inr (.inl tlast))), (tqW, .inl (cyC, 40, .inl twd)), (tqO, .inl (cyI, 5, .inl topn))] := hD
                          refine lv_aload_n hx hb dX4_list_127 rfl (lv_at hl 6 rfl) ?_
                          refine va_get (D := (dC, dI)) (ci := 4) (v := .ref tqB) (C := RX4) (T := TX4) (N := 18) hx hb hts hinX4 hown hK hP 0 rfl rfl 4 (by decide) (hts (.fieldLink RX4 17 "FormDeskModel" "listB" "[J") (by decide +kernel)) (fun _ h9 => h9) rfl dX4_list_128 ?_
                          refine lv_iload_n hx hb dX4_list_131 rfl (lv_at hl 5 rfl) ?_
                          refine lv_iload hx hb dX4_list_132 (lv_at hl 2 rfl) ?_
                          refine lv_i2l (v := (x42).toInt64) hx hb dX4_list_134 rfl ?_
                          refine lv_topl (fun x61 ex61 => ?_)
                          have h := dm_lu ex61 h
                          obtain ⟨hn62, h⟩ := dm_gs h
                          refine va_last hx hb hK hP hD hS 2 1 rfl rfl hn62 dX4_list_135 (fun H locs hP hD hS => ?_)
                          have hP : va_P (dC, dI) vwCl [(th, .inr (4, [.int tthr, .int tdd, .int tn, .ref tqA, .ref tqB, .ref tqC, .long ta, .long tb, .long tc, .long tp, .long tq, .long tr, .long ts, .int tsome, .ref tqL, .int tlet, .ref tqW, .ref tqO])), (tqA, .inl (cyJ, 40, .inr (.inl (vp_updL v9 (v8).toNatClampNeg x59)))), (tqB, .inl (cyJ, 40, .inr (.inl (vp_updL v10 (v8).toNatClampNeg x61)))), (tqC, .inl (cyJ, 40, .inr (.inl v11))), (tqL, .inl (cyJ, 7, .inr (.inl tlast))), (tqW, .inl (cyC, 40, .inl twd)), (tqO, .inl (cyI, 5, .inl topn))] H := hP
                          have hD : va_D A [(th, .inr (4, [.int tthr, .int tdd, .int tn, .ref tqA, .ref tqB, .ref tqC, .long ta, .long tb, .long tc, .long tp, .long tq, .long tr, .long ts, .int tsome, .ref tqL, .int tlet, .ref tqW, .ref tqO])), (tqA, .inl (cyJ, 40, .inr (.inl (vp_updL v9 (v8).toNatClampNeg x59)))), (tqB, .inl (cyJ, 40, .inr (.inl (vp_updL v10 (v8).toNatClampNeg x61)))), (tqC, .inl (cyJ, 40, .inr (.inl v11))), (tqL, .inl (cyJ, 7, .inr (.inl tlast))), (tqW, .inl (cyC, 40, .inl twd)), (tqO, .inl (cyI, 5, .inl topn))] := hD
                          refine lv_aload_n hx hb dX4_list_136 rfl (lv_at hl 6 rfl) ?_
                          refine va_get (D := (dC, dI)) (ci := 4) (v := .ref tqC) (C := RX4) (T := TX4) (N := 18) hx hb hts hinX4 hown hK hP 0 rfl rfl 5 (by decide) (hts (.fieldLink RX4 20 "FormDeskModel" "listC" "[J") (by decide +kernel)) (fun _ h9 => h9) rfl dX4_list_137 ?_
                          refine lv_iload_n hx hb dX4_list_140 rfl (lv_at hl 5 rfl) ?_
                          refine lv_iload hx hb dX4_list_141 (lv_at hl 0 rfl) ?_
                          refine lv_i2l (v := (x45).toInt64) hx hb dX4_list_143 rfl ?_
                          refine lv_topl (fun x63 ex63 => ?_)
                          have h := dm_lu ex63 h
                          obtain ⟨hn64, h⟩ := dm_gs h
                          refine va_last hx hb hK hP hD hS 3 1 rfl rfl hn64 dX4_list_144 (fun H locs hP hD hS => ?_)
                          have hP : va_P (dC, dI) vwCl [(th, .inr (4, [.int tthr, .int tdd, .int tn, .ref tqA, .ref tqB, .ref tqC, .long ta, .long tb, .long tc, .long tp, .long tq, .long tr, .long ts, .int tsome, .ref tqL, .int tlet, .ref tqW, .ref tqO])), (tqA, .inl (cyJ, 40, .inr (.inl (vp_updL v9 (v8).toNatClampNeg x59)))), (tqB, .inl (cyJ, 40, .inr (.inl (vp_updL v10 (v8).toNatClampNeg x61)))), (tqC, .inl (cyJ, 40, .inr (.inl (vp_updL v11 (v8).toNatClampNeg x63)))), (tqL, .inl (cyJ, 7, .inr (.inl tlast))), (tqW, .inl (cyC, 40, .inl twd)), (tqO, .inl (cyI, 5, .inl topn))] H := hP
                          have hD : va_D A [(th, .inr (4, [.int tthr, .int tdd, .int tn, .ref tqA, .ref tqB, .ref tqC, .long ta, .long tb, .long tc, .long tp, .long tq, .long tr, .long ts, .int tsome, .ref tqL, .int tlet, .ref tqW, .ref tqO])), (tqA, .inl (cyJ, 40, .inr (.inl (vp_updL v9 (v8).toNatClampNeg x59)))), (tqB, .inl (cyJ, 40, .inr (.inl (vp_updL v10 (v8).toNatClampNeg x61)))), (tqC, .inl (cyJ, 40, .inr (.inl (vp_updL v11 (v8).toNatClampNeg x63)))), (tqL, .inl (cyJ, 7, .inr (.inl tlast))), (tqW, .inl (cyC, 40, .inl twd)), (tqO, .inl (cyI, 5, .inl topn))] := hD
                          obtain ⟨x65, ex65⟩ : ∃ y : Int32, y = (v8 + (1 : Int32)) := ⟨_, rfl⟩
                          have h := dm_lu ex65 h
                          refine lv_iinc (v := x65) (lv' := [(2, .int x65), (7, .int x45), (6, .int x43), (5, .int x42), (4, .int v7), (3, .int v1), (0, .ref th), (1, .int p0)]) hx hb dX4_list_145 hl (k := 5) rfl (by rw [ex65]; rfl) (by decide) rfl (fun ls hl => ?_)
                          obtain ⟨x66, ex66⟩ : ∃ y : Int32, y = (v7 + (1 : Int32)) := ⟨_, rfl⟩
                          have h := dm_lu ex66 h
                          refine lv_iinc (v := x66) (lv' := [(4, .int x66), (2, .int x65), (7, .int x45), (6, .int x43), (5, .int x42), (3, .int v1), (0, .ref th), (1, .int p0)]) hx hb dX4_list_148 hl (k := 4) rfl (by rw [ex66]; rfl) (by decide) rfl (fun ls hl => ?_)
                          refine lv_goto (tgt := 13) hx hb dX4_list_151 (by decide) ?_
                          exact ih13 x66 x65 (vp_updL v9 (v8).toNatClampNeg x59) (vp_updL v10 (v8).toNatClampNeg x61) (vp_updL v11 (v8).toNatClampNeg x63) H _ ls h (hP.sub [0, 1, 2, 3, 4, 5, 6] rfl) (hD.sub [0, 1, 2, 3, 4, 5, 6] (by decide) rfl) hS (lv_sub hl [0, 5, 1, 6, 7] rfl)
                      · have h := dm_t hc55 h
                        refine lv_goto (tgt := 148) hx hb dX4_list_110 (by decide) ?_
                        obtain ⟨x67, ex67⟩ : ∃ y : Int32, y = (v7 + (1 : Int32)) := ⟨_, rfl⟩
                        have h := dm_lu ex67 h
                        refine lv_iinc (v := x67) (lv' := [(4, .int x67), (7, .int x45), (6, .int x43), (5, .int x42), (3, .int v1), (2, .int v8), (0, .ref th), (1, .int p0)]) hx hb dX4_list_148 hl (k := 3) rfl (by rw [ex67]; rfl) (by decide) rfl (fun ls hl => ?_)
                        refine lv_goto (tgt := 13) hx hb dX4_list_151 (by decide) ?_
                        exact ih13 x67 v8 v9 v10 v11 H _ ls h (hP.sub [0, 1, 2, 3, 4, 5, 6] rfl) (hD.sub [0, 1, 2, 3, 4, 5, 6] (by decide) rfl) hS (lv_sub hl [0, 4, 5, 6, 7] rfl)
              · have h := dm_t hc14 h
                refine lv_iconst (v := 0) hx hb dX4_list_28 (by decide) ?_
                refine lv_goto (tgt := 54) hx hb dX4_list_29 (by decide) ?_
                refine lv_istore (lv' := [(5, .int (0 : Int32)), (4, .int v7), (3, .int v1), (2, .int v8), (0, .ref th), (1, .int p0)]) hx hb dX4_list_54 hl (by decide) rfl (fun ls hl => ?_)
                refine lv_iload hx hb dX4_list_56 (lv_at hl 0 rfl) ?_
                refine lv_iload hx hb dX4_list_58 (lv_at hl 0 rfl) ?_
                refine lv_imul hx hb dX4_list_60 ?_
                refine lv_iload_n hx hb dX4_list_61 rfl (lv_at hl 5 rfl) ?_
                refine lv_isub hx hb dX4_list_62 ?_
                refine lv_topi (fun x68 ex68 => ?_)
                have h := dm_lu ex68 h
                refine lv_istore (lv' := [(6, .int x68), (5, .int (0 : Int32)), (4, .int v7), (3, .int v1), (2, .int v8), (0, .ref th), (1, .int p0)]) hx hb dX4_list_63 hl (by decide) rfl (fun ls hl => ?_)
                refine lv_iload hx hb dX4_list_65 (lv_at hl 0 rfl) ?_
                refine lv_iconst (v := 4) hx hb dX4_list_67 (by decide) ?_
                refine lv_iload_n hx hb dX4_list_68 rfl (lv_at hl 3 rfl) ?_
                refine lv_imul hx hb dX4_list_69 ?_
                obtain ⟨hn69, h⟩ := dm_gs h
                refine lv_idiv hx hb dX4_list_70 hn69 ?_
                refine lv_topi (fun x70 ex70 => ?_)
                have h := dm_lu ex70 h
                refine lv_istore (lv' := [(7, .int x70), (6, .int x68), (5, .int (0 : Int32)), (4, .int v7), (3, .int v1), (2, .int v8), (0, .ref th), (1, .int p0)]) hx hb dX4_list_71 hl (by decide) rfl (fun ls hl => ?_)
                refine lv_iload hx hb dX4_list_73 (lv_at hl 1 rfl) ?_
                refine lv_iconst (v := 4) hx hb dX4_list_75 (by decide) ?_
                refine lv_iload_n hx hb dX4_list_76 rfl (lv_at hl 4 rfl) ?_
                refine lv_imul hx hb dX4_list_77 ?_
                obtain ⟨hn71, h⟩ := dm_gs h
                refine lv_irem hx hb dX4_list_78 hn71 ?_
                refine lv_if_ne (tgt := 148) hx hb dX4_list_79 (by decide) (fun hc72 => ?_) (fun hc72 => ?_)
                · have h := dm_f hc72 h
                  obtain ⟨x73, ex73⟩ : ∃ y : Int32, y = (v7 + (1 : Int32)) := ⟨_, rfl⟩
                  have h := dm_lu ex73 h
                  refine lv_iinc (v := x73) (lv' := [(4, .int x73), (7, .int x70), (6, .int x68), (5, .int (0 : Int32)), (3, .int v1), (2, .int v8), (0, .ref th), (1, .int p0)]) hx hb dX4_list_148 hl (k := 3) rfl (by rw [ex73]; rfl) (by decide) rfl (fun ls hl => ?_)
                  refine lv_goto (tgt := 13) hx hb dX4_list_151 (by decide) ?_
                  exact ih13 x73 v8 v9 v10 v11 H _ ls h (hP.sub [0, 1, 2, 3, 4, 5, 6] rfl) (hD.sub [0, 1, 2, 3, 4, 5, 6] (by decide) rfl) hS (lv_sub hl [0, 4, 5, 6, 7] rfl)
                · have h := dm_t hc72 h
                  refine lv_iload_n hx hb dX4_list_82 rfl (lv_at hl 4 rfl) ?_
                  refine lv_i2l (v := (v1).toInt64) hx hb dX4_list_83 rfl ?_
                  refine lv_iload hx hb dX4_list_84 (lv_at hl 2 rfl) ?_
                  refine lv_i2l (v := ((0 : Int32)).toInt64) hx hb dX4_list_86 rfl ?_
                  refine lv_iload hx hb dX4_list_87 (lv_at hl 0 rfl) ?_
                  refine lv_i2l (v := (x70).toInt64) hx hb dX4_list_89 rfl ?_
                  obtain ⟨r74, hk75, h⟩ := dm_b1s h
                  refine mc_i (wr := [(th, .inr (4, [.int tthr, .int tdd, .int tn, .ref tqA, .ref tqB, .ref tqC, .long ta, .long tb, .long tc, .long tp, .long tq, .long tr, .long ts, .int tsome, .ref tqL, .int tlet, .ref tqW, .ref tqO])), (tqA, .inl (cyJ, 40, .inr (.inl v9))), (tqB, .inl (cyJ, 40, .inr (.inl v10))), (tqC, .inl (cyJ, 40, .inr (.inl v11))), (tqL, .inl (cyJ, 7, .inr (.inl tlast))), (tqW, .inl (cyC, 40, .inl twd)), (tqO, .inl (cyI, 5, .inl topn))]) (va_runS (As := [.long (v1).toInt64, .long ((0 : Int32)).toInt64, .long (x70).toInt64]) (rest := []) ⟨hx, hb, hml, hown, hts⟩ (c_X4_isReduced l dC dI cyI cyJ cyC H.size (v1).toInt64 ((0 : Int32)).toInt64 (x70).toInt64 r74 hk75) (va_cwS 3 hts gX4_list_X4_isReduced rfl rfl rfl (by decide +kernel) ⟨(Nat.le_of_ble_eq_true rfl), (Nat.le_of_ble_eq_true rfl)⟩) (mc_preS hK (hP.sub (ws' := []) [] rfl) (hD.sub (ws' := []) [] (by decide) rfl) hnw) rfl rfl hl.1 rfl (lv_room (Nat.le_of_ble_eq_true rfl)) dX4_list_90 ⟨Nat.zero_le _, Nat.zero_le _⟩) hP hD hS hA [] [0, 1, 2, 3, 4, 5, 6] rfl rfl rfl (by decide) (fun H locs hP hD hS => ?_)
                  have hP : va_P (dC, dI) vwCl [(th, .inr (4, [.int tthr, .int tdd, .int tn, .ref tqA, .ref tqB, .ref tqC, .long ta, .long tb, .long tc, .long tp, .long tq, .long tr, .long ts, .int tsome, .ref tqL, .int tlet, .ref tqW, .ref tqO])), (tqA, .inl (cyJ, 40, .inr (.inl v9))), (tqB, .inl (cyJ, 40, .inr (.inl v10))), (tqC, .inl (cyJ, 40, .inr (.inl v11))), (tqL, .inl (cyJ, 7, .inr (.inl tlast))), (tqW, .inl (cyC, 40, .inl twd)), (tqO, .inl (cyI, 5, .inl topn))] H := hP
                  have hD : va_D A [(th, .inr (4, [.int tthr, .int tdd, .int tn, .ref tqA, .ref tqB, .ref tqC, .long ta, .long tb, .long tc, .long tp, .long tq, .long tr, .long ts, .int tsome, .ref tqL, .int tlet, .ref tqW, .ref tqO])), (tqA, .inl (cyJ, 40, .inr (.inl v9))), (tqB, .inl (cyJ, 40, .inr (.inl v10))), (tqC, .inl (cyJ, 40, .inr (.inl v11))), (tqL, .inl (cyJ, 7, .inr (.inl tlast))), (tqW, .inl (cyC, 40, .inl twd)), (tqO, .inl (cyI, 5, .inl topn))] := hD
                  refine lv_if_eq (tgt := 148) hx hb dX4_list_93 (by decide) (fun hc76 => ?_) (fun hc76 => ?_)
                  · have h := dm_t hc76 h
                    obtain ⟨x77, ex77⟩ : ∃ y : Int32, y = (v7 + (1 : Int32)) := ⟨_, rfl⟩
                    have h := dm_lu ex77 h
                    refine lv_iinc (v := x77) (lv' := [(4, .int x77), (7, .int x70), (6, .int x68), (5, .int (0 : Int32)), (3, .int v1), (2, .int v8), (0, .ref th), (1, .int p0)]) hx hb dX4_list_148 hl (k := 3) rfl (by rw [ex77]; rfl) (by decide) rfl (fun ls hl => ?_)
                    refine lv_goto (tgt := 13) hx hb dX4_list_151 (by decide) ?_
                    exact ih13 x77 v8 v9 v10 v11 H _ ls h (hP.sub [0, 1, 2, 3, 4, 5, 6] rfl) (hD.sub [0, 1, 2, 3, 4, 5, 6] (by decide) rfl) hS (lv_sub hl [0, 4, 5, 6, 7] rfl)
                  · have h := dm_f hc76 h
                    refine lv_iload_n hx hb dX4_list_96 rfl (lv_at hl 4 rfl) ?_
                    refine lv_i2l (v := (v1).toInt64) hx hb dX4_list_97 rfl ?_
                    refine lv_iload hx hb dX4_list_98 (lv_at hl 2 rfl) ?_
                    refine lv_i2l (v := ((0 : Int32)).toInt64) hx hb dX4_list_100 rfl ?_
                    refine lv_iload hx hb dX4_list_101 (lv_at hl 0 rfl) ?_
                    refine lv_i2l (v := (x70).toInt64) hx hb dX4_list_103 rfl ?_
                    obtain ⟨r78, hk79, h⟩ := dm_b1s h
                    refine mc_i (wr := [(th, .inr (4, [.int tthr, .int tdd, .int tn, .ref tqA, .ref tqB, .ref tqC, .long ta, .long tb, .long tc, .long tp, .long tq, .long tr, .long ts, .int tsome, .ref tqL, .int tlet, .ref tqW, .ref tqO])), (tqA, .inl (cyJ, 40, .inr (.inl v9))), (tqB, .inl (cyJ, 40, .inr (.inl v10))), (tqC, .inl (cyJ, 40, .inr (.inl v11))), (tqL, .inl (cyJ, 7, .inr (.inl tlast))), (tqW, .inl (cyC, 40, .inl twd)), (tqO, .inl (cyI, 5, .inl topn))]) (va_runS (As := [.long (v1).toInt64, .long ((0 : Int32)).toInt64, .long (x70).toInt64]) (rest := []) ⟨hx, hb, hml, hown, hts⟩ (c_X4_primitive l dC dI cyI cyJ cyC H.size (v1).toInt64 ((0 : Int32)).toInt64 (x70).toInt64 r78 hk79) (va_cwS 3 hts gX4_list_X4_primitive rfl rfl rfl (by decide +kernel) ⟨(Nat.le_of_ble_eq_true rfl), (Nat.le_of_ble_eq_true rfl)⟩) (mc_preS hK (hP.sub (ws' := []) [] rfl) (hD.sub (ws' := []) [] (by decide) rfl) hnw) rfl rfl hl.1 rfl (lv_room (Nat.le_of_ble_eq_true rfl)) dX4_list_104 ⟨Nat.zero_le _, Nat.zero_le _⟩) hP hD hS hA [] [0, 1, 2, 3, 4, 5, 6] rfl rfl rfl (by decide) (fun H locs hP hD hS => ?_)
                    have hP : va_P (dC, dI) vwCl [(th, .inr (4, [.int tthr, .int tdd, .int tn, .ref tqA, .ref tqB, .ref tqC, .long ta, .long tb, .long tc, .long tp, .long tq, .long tr, .long ts, .int tsome, .ref tqL, .int tlet, .ref tqW, .ref tqO])), (tqA, .inl (cyJ, 40, .inr (.inl v9))), (tqB, .inl (cyJ, 40, .inr (.inl v10))), (tqC, .inl (cyJ, 40, .inr (.inl v11))), (tqL, .inl (cyJ, 7, .inr (.inl tlast))), (tqW, .inl (cyC, 40, .inl twd)), (tqO, .inl (cyI, 5, .inl topn))] H := hP
                    have hD : va_D A [(th, .inr (4, [.int tthr, .int tdd, .int tn, .ref tqA, .ref tqB, .ref tqC, .long ta, .long tb, .long tc, .long tp, .long tq, .long tr, .long ts, .int tsome, .ref tqL, .int tlet, .ref tqW, .ref tqO])), (tqA, .inl (cyJ, 40, .inr (.inl v9))), (tqB, .inl (cyJ, 40, .inr (.inl v10))), (tqC, .inl (cyJ, 40, .inr (.inl v11))), (tqL, .inl (cyJ, 7, .inr (.inl tlast))), (tqW, .inl (cyC, 40, .inl twd)), (tqO, .inl (cyI, 5, .inl topn))] := hD
                    refine lv_if_ne (tgt := 113) hx hb dX4_list_107 (by decide) (fun hc80 => ?_) (fun hc80 => ?_)
                    · have h := dm_f hc80 h
                      refine lv_iload_n hx hb dX4_list_113 rfl (lv_at hl 5 rfl) ?_
                      refine lv_bipush (v := 40) hx hb dX4_list_114 (by decide) ?_
                      refine lv_icmp_ge (tgt := 145) hx hb dX4_list_116 (by decide) (fun hc81 => ?_) (fun hc81 => ?_)
                      · have h := dm_t hc81 h
                        obtain ⟨x82, ex82⟩ : ∃ y : Int32, y = (v8 + (1 : Int32)) := ⟨_, rfl⟩
                        have h := dm_lu ex82 h
                        refine lv_iinc (v := x82) (lv' := [(2, .int x82), (7, .int x70), (6, .int x68), (5, .int (0 : Int32)), (4, .int v7), (3, .int v1), (0, .ref th), (1, .int p0)]) hx hb dX4_list_145 hl (k := 5) rfl (by rw [ex82]; rfl) (by decide) rfl (fun ls hl => ?_)
                        obtain ⟨x83, ex83⟩ : ∃ y : Int32, y = (v7 + (1 : Int32)) := ⟨_, rfl⟩
                        have h := dm_lu ex83 h
                        refine lv_iinc (v := x83) (lv' := [(4, .int x83), (2, .int x82), (7, .int x70), (6, .int x68), (5, .int (0 : Int32)), (3, .int v1), (0, .ref th), (1, .int p0)]) hx hb dX4_list_148 hl (k := 4) rfl (by rw [ex83]; rfl) (by decide) rfl (fun ls hl => ?_)
                        refine lv_goto (tgt := 13) hx hb dX4_list_151 (by decide) ?_
                        exact ih13 x83 x82 v9 v10 v11 H _ ls h (hP.sub [0, 1, 2, 3, 4, 5, 6] rfl) (hD.sub [0, 1, 2, 3, 4, 5, 6] (by decide) rfl) hS (lv_sub hl [0, 5, 1, 6, 7] rfl)
                      · have h := dm_f hc81 h
                        refine lv_aload_n hx hb dX4_list_119 rfl (lv_at hl 6 rfl) ?_
                        refine va_get (D := (dC, dI)) (ci := 4) (v := .ref tqA) (C := RX4) (T := TX4) (N := 18) hx hb hts hinX4 hown hK hP 0 rfl rfl 3 (by decide) (hts (.fieldLink RX4 13 "FormDeskModel" "listA" "[J") (by decide +kernel)) (fun _ h9 => h9) rfl dX4_list_120 ?_
                        refine lv_iload_n hx hb dX4_list_123 rfl (lv_at hl 5 rfl) ?_
                        refine lv_iload_n hx hb dX4_list_124 rfl (lv_at hl 4 rfl) ?_
                        refine lv_i2l (v := (v1).toInt64) hx hb dX4_list_125 rfl ?_
                        refine lv_topl (fun x84 ex84 => ?_)
                        have h := dm_lu ex84 h
                        obtain ⟨hn85, h⟩ := dm_gs h
                        refine va_last hx hb hK hP hD hS 1 1 rfl rfl hn85 dX4_list_126 (fun H locs hP hD hS => ?_)
                        have hP : va_P (dC, dI) vwCl [(th, .inr (4, [.int tthr, .int tdd, .int tn, .ref tqA, .ref tqB, .ref tqC, .long ta, .long tb, .long tc, .long tp, .long tq, .long tr, .long ts, .int tsome, .ref tqL, .int tlet, .ref tqW, .ref tqO])), (tqA, .inl (cyJ, 40, .inr (.inl (vp_updL v9 (v8).toNatClampNeg x84)))), (tqB, .inl (cyJ, 40, .inr (.inl v10))), (tqC, .inl (cyJ, 40, .inr (.inl v11))), (tqL, .inl (cyJ, 7, .inr (.inl tlast))), (tqW, .inl (cyC, 40, .inl twd)), (tqO, .inl (cyI, 5, .inl topn))] H := hP
                        have hD : va_D A [(th, .inr (4, [.int tthr, .int tdd, .int tn, .ref tqA, .ref tqB, .ref tqC, .long ta, .long tb, .long tc, .long tp, .long tq, .long tr, .long ts, .int tsome, .ref tqL, .int tlet, .ref tqW, .ref tqO])), (tqA, .inl (cyJ, 40, .inr (.inl (vp_updL v9 (v8).toNatClampNeg x84)))), (tqB, .inl (cyJ, 40, .inr (.inl v10))), (tqC, .inl (cyJ, 40, .inr (.inl v11))), (tqL, .inl (cyJ, 7, .inr (.inl tlast))), (tqW, .inl (cyC, 40, .inl twd)), (tqO, .inl (cyI, 5, .inl topn))] := hD
                        refine lv_aload_n hx hb dX4_list_127 rfl (lv_at hl 6 rfl) ?_
                        refine va_get (D := (dC, dI)) (ci := 4) (v := .ref tqB) (C := RX4) (T := TX4) (N := 18) hx hb hts hinX4 hown hK hP 0 rfl rfl 4 (by decide) (hts (.fieldLink RX4 17 "FormDeskModel" "listB" "[J") (by decide +kernel)) (fun _ h9 => h9) rfl dX4_list_128 ?_
                        refine lv_iload_n hx hb dX4_list_131 rfl (lv_at hl 5 rfl) ?_
                        refine lv_iload hx hb dX4_list_132 (lv_at hl 2 rfl) ?_
                        refine lv_i2l (v := ((0 : Int32)).toInt64) hx hb dX4_list_134 rfl ?_
                        refine lv_topl (fun x86 ex86 => ?_)
                        have h := dm_lu ex86 h
                        obtain ⟨hn87, h⟩ := dm_gs h
                        refine va_last hx hb hK hP hD hS 2 1 rfl rfl hn87 dX4_list_135 (fun H locs hP hD hS => ?_)
                        have hP : va_P (dC, dI) vwCl [(th, .inr (4, [.int tthr, .int tdd, .int tn, .ref tqA, .ref tqB, .ref tqC, .long ta, .long tb, .long tc, .long tp, .long tq, .long tr, .long ts, .int tsome, .ref tqL, .int tlet, .ref tqW, .ref tqO])), (tqA, .inl (cyJ, 40, .inr (.inl (vp_updL v9 (v8).toNatClampNeg x84)))), (tqB, .inl (cyJ, 40, .inr (.inl (vp_updL v10 (v8).toNatClampNeg x86)))), (tqC, .inl (cyJ, 40, .inr (.inl v11))), (tqL, .inl (cyJ, 7, .inr (.inl tlast))), (tqW, .inl (cyC, 40, .inl twd)), (tqO, .inl (cyI, 5, .inl topn))] H := hP
                        have hD : va_D A [(th, .inr (4, [.int tthr, .int tdd, .int tn, .ref tqA, .ref tqB, .ref tqC, .long ta, .long tb, .long tc, .long tp, .long tq, .long tr, .long ts, .int tsome, .ref tqL, .int tlet, .ref tqW, .ref tqO])), (tqA, .inl (cyJ, 40, .inr (.inl (vp_updL v9 (v8).toNatClampNeg x84)))), (tqB, .inl (cyJ, 40, .inr (.inl (vp_updL v10 (v8).toNatClampNeg x86)))), (tqC, .inl (cyJ, 40, .inr (.inl v11))), (tqL, .inl (cyJ, 7, .inr (.inl tlast))), (tqW, .inl (cyC, 40, .inl twd)), (tqO, .inl (cyI, 5, .inl topn))] := hD
                        refine lv_aload_n hx hb dX4_list_136 rfl (lv_at hl 6 rfl) ?_
                        refine va_get (D := (dC, dI)) (ci := 4) (v := .ref tqC) (C := RX4) (T := TX4) (N := 18) hx hb hts hinX4 hown hK hP 0 rfl rfl 5 (by decide) (hts (.fieldLink RX4 20 "FormDeskModel" "listC" "[J") (by decide +kernel)) (fun _ h9 => h9) rfl dX4_list_137 ?_
                        refine lv_iload_n hx hb dX4_list_140 rfl (lv_at hl 5 rfl) ?_
                        refine lv_iload hx hb dX4_list_141 (lv_at hl 0 rfl) ?_
                        refine lv_i2l (v := (x70).toInt64) hx hb dX4_list_143 rfl ?_
                        refine lv_topl (fun x88 ex88 => ?_)
                        have h := dm_lu ex88 h
                        obtain ⟨hn89, h⟩ := dm_gs h
                        refine va_last hx hb hK hP hD hS 3 1 rfl rfl hn89 dX4_list_144 (fun H locs hP hD hS => ?_)
                        have hP : va_P (dC, dI) vwCl [(th, .inr (4, [.int tthr, .int tdd, .int tn, .ref tqA, .ref tqB, .ref tqC, .long ta, .long tb, .long tc, .long tp, .long tq, .long tr, .long ts, .int tsome, .ref tqL, .int tlet, .ref tqW, .ref tqO])), (tqA, .inl (cyJ, 40, .inr (.inl (vp_updL v9 (v8).toNatClampNeg x84)))), (tqB, .inl (cyJ, 40, .inr (.inl (vp_updL v10 (v8).toNatClampNeg x86)))), (tqC, .inl (cyJ, 40, .inr (.inl (vp_updL v11 (v8).toNatClampNeg x88)))), (tqL, .inl (cyJ, 7, .inr (.inl tlast))), (tqW, .inl (cyC, 40, .inl twd)), (tqO, .inl (cyI, 5, .inl topn))] H := hP
                        have hD : va_D A [(th, .inr (4, [.int tthr, .int tdd, .int tn, .ref tqA, .ref tqB, .ref tqC, .long ta, .long tb, .long tc, .long tp, .long tq, .long tr, .long ts, .int tsome, .ref tqL, .int tlet, .ref tqW, .ref tqO])), (tqA, .inl (cyJ, 40, .inr (.inl (vp_updL v9 (v8).toNatClampNeg x84)))), (tqB, .inl (cyJ, 40, .inr (.inl (vp_updL v10 (v8).toNatClampNeg x86)))), (tqC, .inl (cyJ, 40, .inr (.inl (vp_updL v11 (v8).toNatClampNeg x88)))), (tqL, .inl (cyJ, 7, .inr (.inl tlast))), (tqW, .inl (cyC, 40, .inl twd)), (tqO, .inl (cyI, 5, .inl topn))] := hD
                        obtain ⟨x90, ex90⟩ : ∃ y : Int32, y = (v8 + (1 : Int32)) := ⟨_, rfl⟩
                        have h := dm_lu ex90 h
                        refine lv_iinc (v := x90) (lv' := [(2, .int x90), (7, .int x70), (6, .int x68), (5, .int (0 : Int32)), (4, .int v7), (3, .int v1), (0, .ref th), (1, .int p0)]) hx hb dX4_list_145 hl (k := 5) rfl (by rw [ex90]; rfl) (by decide) rfl (fun ls hl => ?_)
                        obtain ⟨x91, ex91⟩ : ∃ y : Int32, y = (v7 + (1 : Int32)) := ⟨_, rfl⟩
                        have h := dm_lu ex91 h
                        refine lv_iinc (v := x91) (lv' := [(4, .int x91), (2, .int x90), (7, .int x70), (6, .int x68), (5, .int (0 : Int32)), (3, .int v1), (0, .ref th), (1, .int p0)]) hx hb dX4_list_148 hl (k := 4) rfl (by rw [ex91]; rfl) (by decide) rfl (fun ls hl => ?_)
                        refine lv_goto (tgt := 13) hx hb dX4_list_151 (by decide) ?_
                        exact ih13 x91 x90 (vp_updL v9 (v8).toNatClampNeg x84) (vp_updL v10 (v8).toNatClampNeg x86) (vp_updL v11 (v8).toNatClampNeg x88) H _ ls h (hP.sub [0, 1, 2, 3, 4, 5, 6] rfl) (hD.sub [0, 1, 2, 3, 4, 5, 6] (by decide) rfl) hS (lv_sub hl [0, 5, 1, 6, 7] rfl)
                    · have h := dm_t hc80 h
                      refine lv_goto (tgt := 148) hx hb dX4_list_110 (by decide) ?_
                      obtain ⟨x92, ex92⟩ : ∃ y : Int32, y = (v7 + (1 : Int32)) := ⟨_, rfl⟩
                      have h := dm_lu ex92 h
                      refine lv_iinc (v := x92) (lv' := [(4, .int x92), (7, .int x70), (6, .int x68), (5, .int (0 : Int32)), (3, .int v1), (2, .int v8), (0, .ref th), (1, .int p0)]) hx hb dX4_list_148 hl (k := 3) rfl (by rw [ex92]; rfl) (by decide) rfl (fun ls hl => ?_)
                      refine lv_goto (tgt := 13) hx hb dX4_list_151 (by decide) ?_
                      exact ih13 x92 v8 v9 v10 v11 H _ ls h (hP.sub [0, 1, 2, 3, 4, 5, 6] rfl) (hD.sub [0, 1, 2, 3, 4, 5, 6] (by decide) rfl) hS (lv_sub hl [0, 4, 5, 6, 7] rfl)
        exact L13 100000 (0 : Int32) v2 v3 v4 v5 H _ ls h hP hD hS hl
  exact L4 100000 (1 : Int32) (0 : Int32) tla tlb tlc s.heap _ ls h hP hD hS hl

def f_X4_discriminant (tdd : Int32) (tn : Int32) (tla : Nat → Int64) (tlb : Nat → Int64) (tlc : Nat → Int64) (p0 : Int32) : Option (Int32 × Int32 × Int32 × Int32 × (Nat → Int64) × (Nat → Int64) × (Nat → Int64)) :=
  dm_b1 (f_X4_outside p0 (-2000 : Int32) (-3 : Int32)) fun r1 =>
  if r1 = 0 then
    if (((p0 - p0 / (4 : Int32) * (4 : Int32)) + (4 : Int32)) - ((p0 - p0 / (4 : Int32) * (4 : Int32)) + (4 : Int32)) / (4 : Int32) * (4 : Int32)) ≤ (1 : Int32) then
      dm_b6 (f_X4_list tla tlb tlc p0) fun r8 w9 w10 w11 w12 w13 =>
      if (40 : Int32) < r8 then
        dm_b6 (f_X4_list w11 w12 w13 tdd) fun r16 w17 w18 w19 w20 w21 =>
        dm_b2 (f_X4_refuse (2 : Int32)) fun r23 w24 =>
        some (r23, w24, w17, w18, w19, w20, w21)
      else
        some (w10, (0 : Int32), w9, w10, w11, w12, w13)
    else
      dm_b2 (f_X4_refuse (1 : Int32)) fun r26 w27 =>
      some (r26, w27, tdd, tn, tla, tlb, tlc)
  else
    dm_b2 (f_X4_refuse (1 : Int32)) fun r4 w5 =>
    some (r4, w5, tdd, tn, tla, tlb, tlc)
set_option maxHeartbeats 4000000 in
set_option maxRecDepth 100000 in
theorem c_X4_discriminant (l : Launch) (dC : Nat → ClassId) (dI : Nat → Nat → Nat) (cyI cyJ cyC : ClassId) (th tqA tqB tqC tqL tqW tqO : Nat) (sz : Nat) (tthr : Int32) (tdd : Int32) (tn : Int32) (tla : Nat → Int64) (tlb : Nat → Int64) (tlc : Nat → Int64) (ta : Int64) (tb : Int64) (tc : Int64) (tp : Int64) (tq : Int64) (tr : Int64) (ts : Int64) (tsome : Int32) (tlast : Nat → Int64) (tlet : Int32) (twd : Nat → Int32) (topn : Nat → Int32) (p0 : Int32) (rv : Int32) (tthr' : Int32) (tdd' : Int32) (tn' : Int32) (tla' : Nat → Int64) (tlb' : Nat → Int64) (tlc' : Nat → Int64) (hf : f_X4_discriminant tdd tn tla tlb tlc p0 = some (rv, tthr', tdd', tn', tla', tlb', tlc')) : Met l yX4_discriminant wsX4_discriminant { frames := 4, cells := 0, slots := 0, locals := 100 } (va_Pc [.ref th, .int p0] (mc_Pre (dC, dI) (mc_tys cyI cyJ cyC) [(th, .inr (4, [.int tthr, .int tdd, .int tn, .ref tqA, .ref tqB, .ref tqC, .long ta, .long tb, .long tc, .long tp, .long tq, .long tr, .long ts, .int tsome, .ref tqL, .int tlet, .ref tqW, .ref tqO])), (tqA, .inl (cyJ, 40, .inr (.inl tla))), (tqB, .inl (cyJ, 40, .inr (.inl tlb))), (tqC, .inl (cyJ, 40, .inr (.inl tlc))), (tqL, .inl (cyJ, 7, .inr (.inl tlast))), (tqW, .inl (cyC, 40, .inl twd)), (tqO, .inl (cyI, 5, .inl topn))] sz)) (va_Qi (fun r (_ : Unit) => r = rv) (fun _ t => mc_Post (dC, dI) (va_A [(th, .inr (4, [.int tthr, .int tdd, .int tn, .ref tqA, .ref tqB, .ref tqC, .long ta, .long tb, .long tc, .long tp, .long tq, .long tr, .long ts, .int tsome, .ref tqL, .int tlet, .ref tqW, .ref tqO])), (tqA, .inl (cyJ, 40, .inr (.inl tla))), (tqB, .inl (cyJ, 40, .inr (.inl tlb))), (tqC, .inl (cyJ, 40, .inr (.inl tlc))), (tqL, .inl (cyJ, 7, .inr (.inl tlast))), (tqW, .inl (cyC, 40, .inl twd)), (tqO, .inl (cyI, 5, .inl topn))] sz) [(th, .inr (4, [.int tthr', .int tdd', .int tn', .ref tqA, .ref tqB, .ref tqC, .long ta, .long tb, .long tc, .long tp, .long tq, .long tr, .long ts, .int tsome, .ref tqL, .int tlet, .ref tqW, .ref tqO])), (tqA, .inl (cyJ, 40, .inr (.inl tla'))), (tqB, .inl (cyJ, 40, .inr (.inl tlb'))), (tqC, .inl (cyJ, 40, .inr (.inl tlc'))), (tqL, .inl (cyJ, 7, .inr (.inl tlast))), (tqW, .inl (cyC, 40, .inl twd)), (tqO, .inl (cyI, 5, .inl topn))] t) (va_A [(th, .inr (4, [.int tthr, .int tdd, .int tn, .ref tqA, .ref tqB, .ref tqC, .long ta, .long tb, .long tc, .long tp, .long tq, .long tr, .long ts, .int tsome, .ref tqL, .int tlet, .ref tqW, .ref tqO])), (tqA, .inl (cyJ, 40, .inr (.inl tla))), (tqB, .inl (cyJ, 40, .inr (.inl tlb))), (tqC, .inl (cyJ, 40, .inr (.inl tlc))), (tqL, .inl (cyJ, 7, .inr (.inl tlast))), (tqW, .inl (cyC, 40, .inl twd)), (tqO, .inl (cyI, 5, .inl topn))] sz)) 0 0 (va_A [(th, .inr (4, [.int tthr, .int tdd, .int tn, .ref tqA, .ref tqB, .ref tqC, .long ta, .long tb, .long tc, .long tp, .long tq, .long tr, .long ts, .int tsome, .ref tqL, .int tlet, .ref tqW, .ref tqO])), (tqA, .inl (cyJ, 40, .inr (.inl tla))), (tqB, .inl (cyJ, 40, .inr (.inl tlb))), (tqC, .inl (cyJ, 40, .inr (.inl tlc))), (tqL, .inl (cyJ, 7, .inr (.inl tlast))), (tqW, .inl (cyC, 40, .inl twd)), (tqO, .inl (cyI, 5, .inl topn))] sz) := by
  refine Met.ofW (cc := cX4_discriminant) (maxL := 3) (ret := (some .int)) (by decide +kernel) rfl ?_
  intro p e s m args below meth c s₁ B hml hv
  obtain ⟨rfl, hsz, hP, hK, hD0, hnw⟩ := hv
  have hx := B.exec
  have hb := B.bytes
  have hr := B.returns
  have hts := atoms_spec (ws := wsX4_discriminant) B.pre
  have hown : s.vm.findClass RX4 = some m.cls := findClass_of_methodNamed B.named
  have hlocks := B.notSynchronized
  have hinX4 : ∀ w ∈ wsX40, w ∈ wsX4_discriminant := by decide +kernel
  subst hsz
  have hD := hD0.self (sz := s.heap.size)
  generalize hAe : va_A [(th, .inr (4, [.int tthr, .int tdd, .int tn, .ref tqA, .ref tqB, .ref tqC, .long ta, .long tb, .long tc, .long tp, .long tq, .long tr, .long ts, .int tsome, .ref tqL, .int tlet, .ref tqW, .ref tqO])), (tqA, .inl (cyJ, 40, .inr (.inl tla))), (tqB, .inl (cyJ, 40, .inr (.inl tlb))), (tqC, .inl (cyJ, 40, .inr (.inl tlc))), (tqL, .inl (cyJ, 7, .inr (.inl tlast))), (tqW, .inl (cyC, 40, .inl twd)), (tqO, .inl (cyI, 5, .inl topn))] s.heap.size = A at hD ⊢
  have hA : ∀ q : Nat, s.heap.size ≤ q → A q := fun q h => by rw [← hAe]; exact Or.inr h
  have hS : va_S A s.heap s.heap [] := va_S.rf
  have hP : va_P (dC, dI) vwCl [(th, .inr (4, [.int tthr, .int tdd, .int tn, .ref tqA, .ref tqB, .ref tqC, .long ta, .long tb, .long tc, .long tp, .long tq, .long tr, .long ts, .int tsome, .ref tqL, .int tlet, .ref tqW, .ref tqO])), (tqA, .inl (cyJ, 40, .inr (.inl tla))), (tqB, .inl (cyJ, 40, .inr (.inl tlb))), (tqC, .inl (cyJ, 40, .inr (.inl tlc))), (tqL, .inl (cyJ, 7, .inr (.inl tlast))), (tqW, .inl (cyC, 40, .inl twd)), (tqO, .inl (cyI, 5, .inl topn))] s.heap := hP
  have hl := lv_entry ([.ref th, .int p0]) (n := 3) (Nat.le_of_ble_eq_true rfl)
  rw [lg_entry_eq]
  generalize (lg_sl ([.ref th, .int p0]) ++ List.replicate (3 - (lg_sl ([.ref th, .int p0])).length) Slot.unset).toArray = ls at hl ⊢
  have hl : lv_has ls 3 [(0, .ref th), (1, .int p0)] := hl
  obtain ⟨QQ, hQQ⟩ : ∃ Q, Q = MQ below (va_Qi (fun r (_ : Unit) => r = rv) (fun _ t => mc_Post (dC, dI) A [(th, .inr (4, [.int tthr', .int tdd', .int tn', .ref tqA, .ref tqB, .ref tqC, .long ta, .long tb, .long tc, .long tp, .long tq, .long tr, .long ts, .int tsome, .ref tqL, .int tlet, .ref tqW, .ref tqO])), (tqA, .inl (cyJ, 40, .inr (.inl tla'))), (tqB, .inl (cyJ, 40, .inr (.inl tlb'))), (tqC, .inl (cyJ, 40, .inr (.inl tlc'))), (tqL, .inl (cyJ, 7, .inr (.inl tlast))), (tqW, .inl (cyC, 40, .inl twd)), (tqO, .inl (cyI, 5, .inl topn))] t) A) ([Value.ref th, Value.int p0] : List Value).toArray s 0 0 A := ⟨_, rfl⟩
  rw [← hQQ]
  have h := hf
  unfold f_X4_discriminant at h
  refine lv_iload_n hx hb dX4_discriminant_0 rfl (lv_at hl 1 rfl) ?_
  refine lv_sipush (v := -2000) hx hb dX4_discriminant_1 (by decide) ?_
  refine lv_bipush (v := -3) hx hb dX4_discriminant_4 (by decide) ?_
  obtain ⟨r1, hk2, h⟩ := dm_b1s h
  refine mc_i (wr := [(th, .inr (4, [.int tthr, .int tdd, .int tn, .ref tqA, .ref tqB, .ref tqC, .long ta, .long tb, .long tc, .long tp, .long tq, .long tr, .long ts, .int tsome, .ref tqL, .int tlet, .ref tqW, .ref tqO])), (tqA, .inl (cyJ, 40, .inr (.inl tla))), (tqB, .inl (cyJ, 40, .inr (.inl tlb))), (tqC, .inl (cyJ, 40, .inr (.inl tlc))), (tqL, .inl (cyJ, 7, .inr (.inl tlast))), (tqW, .inl (cyC, 40, .inl twd)), (tqO, .inl (cyI, 5, .inl topn))]) (va_runS (As := [.int p0, .int (-2000 : Int32), .int (-3 : Int32)]) (rest := []) ⟨hx, hb, hml, hown, hts⟩ (c_X4_outside l dC dI cyI cyJ cyC s.heap.size p0 (-2000 : Int32) (-3 : Int32) r1 hk2) (va_cwS 3 hts gX4_discriminant_X4_outside rfl rfl rfl (by decide +kernel) ⟨(Nat.le_of_ble_eq_true rfl), (Nat.le_of_ble_eq_true rfl)⟩) (mc_preS hK (hP.sub (ws' := []) [] rfl) (hD.sub (ws' := []) [] (by decide) rfl) hnw) rfl rfl hl.1 rfl (lv_room (Nat.le_of_ble_eq_true rfl)) dX4_discriminant_6 ⟨Nat.zero_le _, Nat.zero_le _⟩) hP hD hS hA [] [0, 1, 2, 3, 4, 5, 6] rfl rfl rfl (by decide) (fun H locs hP hD hS => ?_)
  have hP : va_P (dC, dI) vwCl [(th, .inr (4, [.int tthr, .int tdd, .int tn, .ref tqA, .ref tqB, .ref tqC, .long ta, .long tb, .long tc, .long tp, .long tq, .long tr, .long ts, .int tsome, .ref tqL, .int tlet, .ref tqW, .ref tqO])), (tqA, .inl (cyJ, 40, .inr (.inl tla))), (tqB, .inl (cyJ, 40, .inr (.inl tlb))), (tqC, .inl (cyJ, 40, .inr (.inl tlc))), (tqL, .inl (cyJ, 7, .inr (.inl tlast))), (tqW, .inl (cyC, 40, .inl twd)), (tqO, .inl (cyI, 5, .inl topn))] H := hP
  have hD : va_D A [(th, .inr (4, [.int tthr, .int tdd, .int tn, .ref tqA, .ref tqB, .ref tqC, .long ta, .long tb, .long tc, .long tp, .long tq, .long tr, .long ts, .int tsome, .ref tqL, .int tlet, .ref tqW, .ref tqO])), (tqA, .inl (cyJ, 40, .inr (.inl tla))), (tqB, .inl (cyJ, 40, .inr (.inl tlb))), (tqC, .inl (cyJ, 40, .inr (.inl tlc))), (tqL, .inl (cyJ, 7, .inr (.inl tlast))), (tqW, .inl (cyC, 40, .inl twd)), (tqO, .inl (cyI, 5, .inl topn))] := hD
  refine lv_if_ne (tgt := 23) hx hb dX4_discriminant_9 (by decide) (fun hc3 => ?_) (fun hc3 => ?_)
  · have h := dm_f hc3 h
    refine lv_aload_n hx hb dX4_discriminant_23 rfl (lv_at hl 0 rfl) ?_
    refine lv_iconst (v := 1) hx hb dX4_discriminant_24 (by decide) ?_
    obtain ⟨r4, w5, hk6, h⟩ := dm_b2s h
    refine mc_i (wr := []) (va_runV (As := [.int (1 : Int32)]) (rest := []) ⟨hx, hb, hml, hown, hts⟩ (c_X4_refuse l dC dI cyI cyJ cyC th tqA tqB tqC tqL tqW tqO H.size tthr tdd tn tla tlb tlc ta tb tc tp tq tr ts tsome tlast tlet twd topn (1 : Int32) r4 w5 hk6) (cwV 1 hts gX4_discriminant_X4_refuse rfl rfl rfl (by decide +kernel) ⟨(Nat.le_of_ble_eq_true rfl), (Nat.le_of_ble_eq_true rfl)⟩) (mc_preV hK (hP.sub (ws' := [(th, .inr (4, [.int tthr, .int tdd, .int tn, .ref tqA, .ref tqB, .ref tqC, .long ta, .long tb, .long tc, .long tp, .long tq, .long tr, .long ts, .int tsome, .ref tqL, .int tlet, .ref tqW, .ref tqO])), (tqA, .inl (cyJ, 40, .inr (.inl tla))), (tqB, .inl (cyJ, 40, .inr (.inl tlb))), (tqC, .inl (cyJ, 40, .inr (.inl tlc))), (tqL, .inl (cyJ, 7, .inr (.inl tlast))), (tqW, .inl (cyC, 40, .inl twd)), (tqO, .inl (cyI, 5, .inl topn))]) [0, 1, 2, 3, 4, 5, 6] rfl) (hD.sub (ws' := [(th, .inr (4, [.int tthr, .int tdd, .int tn, .ref tqA, .ref tqB, .ref tqC, .long ta, .long tb, .long tc, .long tp, .long tq, .long tr, .long ts, .int tsome, .ref tqL, .int tlet, .ref tqW, .ref tqO])), (tqA, .inl (cyJ, 40, .inr (.inl tla))), (tqB, .inl (cyJ, 40, .inr (.inl tlb))), (tqC, .inl (cyJ, 40, .inr (.inl tlc))), (tqL, .inl (cyJ, 7, .inr (.inl tlast))), (tqW, .inl (cyC, 40, .inl twd)), (tqO, .inl (cyI, 5, .inl topn))]) [0, 1, 2, 3, 4, 5, 6] (by decide) rfl) hnw rfl rfl) rfl rfl hl.1 rfl (lv_room (Nat.le_of_ble_eq_true rfl)) dX4_discriminant_25 ⟨Nat.zero_le _, Nat.zero_le _⟩) hP hD hS hA [0, 1, 2, 3, 4, 5, 6] [] rfl rfl rfl (by decide) (fun H locs hP hD hS => ?_)
    have hP : va_P (dC, dI) vwCl [(th, .inr (4, [.int w5, .int tdd, .int tn, .ref tqA, .ref tqB, .ref tqC, .long ta, .long tb, .long tc, .long tp, .long tq, .long tr, .long ts, .int tsome, .ref tqL, .int tlet, .ref tqW, .ref tqO])), (tqA, .inl (cyJ, 40, .inr (.inl tla))), (tqB, .inl (cyJ, 40, .inr (.inl tlb))), (tqC, .inl (cyJ, 40, .inr (.inl tlc))), (tqL, .inl (cyJ, 7, .inr (.inl tlast))), (tqW, .inl (cyC, 40, .inl twd)), (tqO, .inl (cyI, 5, .inl topn))] H := hP
    have hD : va_D A [(th, .inr (4, [.int w5, .int tdd, .int tn, .ref tqA, .ref tqB, .ref tqC, .long ta, .long tb, .long tc, .long tp, .long tq, .long tr, .long ts, .int tsome, .ref tqL, .int tlet, .ref tqW, .ref tqO])), (tqA, .inl (cyJ, 40, .inr (.inl tla))), (tqB, .inl (cyJ, 40, .inr (.inl tlb))), (tqC, .inl (cyJ, 40, .inr (.inl tlc))), (tqL, .inl (cyJ, 7, .inr (.inl tlast))), (tqW, .inl (cyC, 40, .inl twd)), (tqO, .inl (cyI, 5, .inl topn))] := hD
    obtain ⟨hE0, hE1, hE2, hE3, hE4, hE5, hE6⟩ := dm_i7 h
    subst hE0; subst hE1; subst hE2; subst hE3; subst hE4; subst hE5; subst hE6
    rw [hQQ]
    have hP9 := hP.sub (ws' := [(th, .inr (4, [.int w5, .int tdd, .int tn, .ref tqA, .ref tqB, .ref tqC, .long ta, .long tb, .long tc, .long tp, .long tq, .long tr, .long ts, .int tsome, .ref tqL, .int tlet, .ref tqW, .ref tqO])), (tqA, .inl (cyJ, 40, .inr (.inl tla))), (tqB, .inl (cyJ, 40, .inr (.inl tlb))), (tqC, .inl (cyJ, 40, .inr (.inl tlc))), (tqL, .inl (cyJ, 7, .inr (.inl tlast))), (tqW, .inl (cyC, 40, .inl twd)), (tqO, .inl (cyI, 5, .inl topn))]) [0, 1, 2, 3, 4, 5, 6] rfl
    have hD9 := hD.sub (ws' := [(th, .inr (4, [.int w5, .int tdd, .int tn, .ref tqA, .ref tqB, .ref tqC, .long ta, .long tb, .long tc, .long tp, .long tq, .long tr, .long ts, .int tsome, .ref tqL, .int tlet, .ref tqW, .ref tqO])), (tqA, .inl (cyJ, 40, .inr (.inl tla))), (tqB, .inl (cyJ, 40, .inr (.inl tlb))), (tqC, .inl (cyJ, 40, .inr (.inl tlc))), (tqL, .inl (cyJ, 7, .inr (.inl tlast))), (tqW, .inl (cyC, 40, .inl twd)), (tqO, .inl (cyI, 5, .inl topn))]) [0, 1, 2, 3, 4, 5, 6] (by decide) rfl
    exact W.iret (v := r4) hx hb hr (fun t ht hW => ⟨⟨r4, (), rfl, rfl, by rw [ht]; exact hP9, hD9⟩, hS.F ht⟩) hS.2.2 dX4_discriminant_28
  · have h := dm_t hc3 h
    refine lv_iload_n hx hb dX4_discriminant_12 rfl (lv_at hl 1 rfl) ?_
    refine lv_iconst (v := 4) hx hb dX4_discriminant_13 (by decide) ?_
    refine lv_irem hx hb dX4_discriminant_14 (by decide) ?_
    refine lv_iconst (v := 4) hx hb dX4_discriminant_15 (by decide) ?_
    refine lv_iadd hx hb dX4_discriminant_16 ?_
    refine lv_iconst (v := 4) hx hb dX4_discriminant_17 (by decide) ?_
    refine lv_irem hx hb dX4_discriminant_18 (by decide) ?_
    refine lv_iconst (v := 1) hx hb dX4_discriminant_19 (by decide) ?_
    refine lv_icmp_le (tgt := 29) hx hb dX4_discriminant_20 (by decide) (fun hc7 => ?_) (fun hc7 => ?_)
    · have h := dm_t hc7 h
      refine lv_aload_n hx hb dX4_discriminant_29 rfl (lv_at hl 0 rfl) ?_
      refine va_get (D := (dC, dI)) (ci := 4) (v := .int tdd) (C := RX4) (T := TX4) (N := 18) hx hb hts hinX4 hown hK hP 0 rfl rfl 1 (by decide) (hts (.fieldLink RX4 7 "FormDeskModel" "d" "I") (by decide +kernel)) (fun _ h9 => h9) rfl dX4_discriminant_30 ?_
      refine lv_istore_n (lv' := [(2, .int tdd), (0, .ref th), (1, .int p0)]) hx hb dX4_discriminant_33 rfl hl (by decide) rfl (fun ls hl => ?_)
      refine lv_aload_n hx hb dX4_discriminant_34 rfl (lv_at hl 1 rfl) ?_
      refine lv_iconst (v := 0) hx hb dX4_discriminant_35 (by decide) ?_
      refine va_put (D := (dC, dI)) (ci := 4) (v := .int (0 : Int32)) (ty := .int) (C := RX4) (T := TX4) (N := 18) hx hb hts hinX4 tyX4 tyX4_ok nmX4 hown hK hP hD hS 0 rfl rfl 0 (by decide) (hts (.fieldLink RX4 38 "FormDeskModel" "thrown" "I") (by decide +kernel)) (fun _ h9 => h9) rfl (by decide +kernel) rfl rfl (Nat.le_of_ble_eq_true rfl) dX4_discriminant_36 (fun H locs hP hD hS => ?_)
      have hP : va_P (dC, dI) vwCl [(th, .inr (4, [.int (0 : Int32), .int tdd, .int tn, .ref tqA, .ref tqB, .ref tqC, .long ta, .long tb, .long tc, .long tp, .long tq, .long tr, .long ts, .int tsome, .ref tqL, .int tlet, .ref tqW, .ref tqO])), (tqA, .inl (cyJ, 40, .inr (.inl tla))), (tqB, .inl (cyJ, 40, .inr (.inl tlb))), (tqC, .inl (cyJ, 40, .inr (.inl tlc))), (tqL, .inl (cyJ, 7, .inr (.inl tlast))), (tqW, .inl (cyC, 40, .inl twd)), (tqO, .inl (cyI, 5, .inl topn))] H := hP
      have hD : va_D A [(th, .inr (4, [.int (0 : Int32), .int tdd, .int tn, .ref tqA, .ref tqB, .ref tqC, .long ta, .long tb, .long tc, .long tp, .long tq, .long tr, .long ts, .int tsome, .ref tqL, .int tlet, .ref tqW, .ref tqO])), (tqA, .inl (cyJ, 40, .inr (.inl tla))), (tqB, .inl (cyJ, 40, .inr (.inl tlb))), (tqC, .inl (cyJ, 40, .inr (.inl tlc))), (tqL, .inl (cyJ, 7, .inr (.inl tlast))), (tqW, .inl (cyC, 40, .inl twd)), (tqO, .inl (cyI, 5, .inl topn))] := hD
      refine lv_aload_n hx hb dX4_discriminant_39 rfl (lv_at hl 1 rfl) ?_
      refine lv_iload_n hx hb dX4_discriminant_40 rfl (lv_at hl 2 rfl) ?_
      obtain ⟨r8, w9, w10, w11, w12, w13, hk14, h⟩ := dm_b6s h
      refine mc_i (wr := []) (va_runV (As := [.int p0]) (rest := []) ⟨hx, hb, hml, hown, hts⟩ (c_X4_list l dC dI cyI cyJ cyC th tqA tqB tqC tqL tqW tqO H.size (0 : Int32) tdd tn tla tlb tlc ta tb tc tp tq tr ts tsome tlast tlet twd topn p0 r8 w9 w10 w11 w12 w13 hk14) (cwV 1 hts gX4_discriminant_X4_list rfl rfl rfl (by decide +kernel) ⟨(Nat.le_of_ble_eq_true rfl), (Nat.le_of_ble_eq_true rfl)⟩) (mc_preV hK (hP.sub (ws' := [(th, .inr (4, [.int (0 : Int32), .int tdd, .int tn, .ref tqA, .ref tqB, .ref tqC, .long ta, .long tb, .long tc, .long tp, .long tq, .long tr, .long ts, .int tsome, .ref tqL, .int tlet, .ref tqW, .ref tqO])), (tqA, .inl (cyJ, 40, .inr (.inl tla))), (tqB, .inl (cyJ, 40, .inr (.inl tlb))), (tqC, .inl (cyJ, 40, .inr (.inl tlc))), (tqL, .inl (cyJ, 7, .inr (.inl tlast))), (tqW, .inl (cyC, 40, .inl twd)), (tqO, .inl (cyI, 5, .inl topn))]) [0, 1, 2, 3, 4, 5, 6] rfl) (hD.sub (ws' := [(th, .inr (4, [.int (0 : Int32), .int tdd, .int tn, .ref tqA, .ref tqB, .ref tqC, .long ta, .long tb, .long tc, .long tp, .long tq, .long tr, .long ts, .int tsome, .ref tqL, .int tlet, .ref tqW, .ref tqO])), (tqA, .inl (cyJ, 40, .inr (.inl tla))), (tqB, .inl (cyJ, 40, .inr (.inl tlb))), (tqC, .inl (cyJ, 40, .inr (.inl tlc))), (tqL, .inl (cyJ, 7, .inr (.inl tlast))), (tqW, .inl (cyC, 40, .inl twd)), (tqO, .inl (cyI, 5, .inl topn))]) [0, 1, 2, 3, 4, 5, 6] (by decide) rfl) hnw rfl rfl) rfl rfl hl.1 rfl (lv_room (Nat.le_of_ble_eq_true rfl)) dX4_discriminant_41 ⟨Nat.zero_le _, Nat.zero_le _⟩) hP hD hS hA [0, 1, 2, 3, 4, 5, 6] [] rfl rfl rfl (by decide) (fun H locs hP hD hS => ?_)
      have hP : va_P (dC, dI) vwCl [(th, .inr (4, [.int (0 : Int32), .int w9, .int w10, .ref tqA, .ref tqB, .ref tqC, .long ta, .long tb, .long tc, .long tp, .long tq, .long tr, .long ts, .int tsome, .ref tqL, .int tlet, .ref tqW, .ref tqO])), (tqA, .inl (cyJ, 40, .inr (.inl w11))), (tqB, .inl (cyJ, 40, .inr (.inl w12))), (tqC, .inl (cyJ, 40, .inr (.inl w13))), (tqL, .inl (cyJ, 7, .inr (.inl tlast))), (tqW, .inl (cyC, 40, .inl twd)), (tqO, .inl (cyI, 5, .inl topn))] H := hP
      have hD : va_D A [(th, .inr (4, [.int (0 : Int32), .int w9, .int w10, .ref tqA, .ref tqB, .ref tqC, .long ta, .long tb, .long tc, .long tp, .long tq, .long tr, .long ts, .int tsome, .ref tqL, .int tlet, .ref tqW, .ref tqO])), (tqA, .inl (cyJ, 40, .inr (.inl w11))), (tqB, .inl (cyJ, 40, .inr (.inl w12))), (tqC, .inl (cyJ, 40, .inr (.inl w13))), (tqL, .inl (cyJ, 7, .inr (.inl tlast))), (tqW, .inl (cyC, 40, .inl twd)), (tqO, .inl (cyI, 5, .inl topn))] := hD
      refine lv_bipush (v := 40) hx hb dX4_discriminant_44 (by decide) ?_
      refine lv_icmp_gt (tgt := 54) hx hb dX4_discriminant_46 (by decide) (fun hc15 => ?_) (fun hc15 => ?_)
      · have h := dm_t hc15 h
        refine lv_aload_n hx hb dX4_discriminant_54 rfl (lv_at hl 1 rfl) ?_
        refine lv_iload_n hx hb dX4_discriminant_55 rfl (lv_at hl 0 rfl) ?_
        obtain ⟨r16, w17, w18, w19, w20, w21, hk22, h⟩ := dm_b6s h
        refine mc_i (wr := []) (va_runV (As := [.int tdd]) (rest := []) ⟨hx, hb, hml, hown, hts⟩ (c_X4_list l dC dI cyI cyJ cyC th tqA tqB tqC tqL tqW tqO H.size (0 : Int32) w9 w10 w11 w12 w13 ta tb tc tp tq tr ts tsome tlast tlet twd topn tdd r16 w17 w18 w19 w20 w21 hk22) (cwV 1 hts gX4_discriminant_X4_list rfl rfl rfl (by decide +kernel) ⟨(Nat.le_of_ble_eq_true rfl), (Nat.le_of_ble_eq_true rfl)⟩) (mc_preV hK (hP.sub (ws' := [(th, .inr (4, [.int (0 : Int32), .int w9, .int w10, .ref tqA, .ref tqB, .ref tqC, .long ta, .long tb, .long tc, .long tp, .long tq, .long tr, .long ts, .int tsome, .ref tqL, .int tlet, .ref tqW, .ref tqO])), (tqA, .inl (cyJ, 40, .inr (.inl w11))), (tqB, .inl (cyJ, 40, .inr (.inl w12))), (tqC, .inl (cyJ, 40, .inr (.inl w13))), (tqL, .inl (cyJ, 7, .inr (.inl tlast))), (tqW, .inl (cyC, 40, .inl twd)), (tqO, .inl (cyI, 5, .inl topn))]) [0, 1, 2, 3, 4, 5, 6] rfl) (hD.sub (ws' := [(th, .inr (4, [.int (0 : Int32), .int w9, .int w10, .ref tqA, .ref tqB, .ref tqC, .long ta, .long tb, .long tc, .long tp, .long tq, .long tr, .long ts, .int tsome, .ref tqL, .int tlet, .ref tqW, .ref tqO])), (tqA, .inl (cyJ, 40, .inr (.inl w11))), (tqB, .inl (cyJ, 40, .inr (.inl w12))), (tqC, .inl (cyJ, 40, .inr (.inl w13))), (tqL, .inl (cyJ, 7, .inr (.inl tlast))), (tqW, .inl (cyC, 40, .inl twd)), (tqO, .inl (cyI, 5, .inl topn))]) [0, 1, 2, 3, 4, 5, 6] (by decide) rfl) hnw rfl rfl) rfl rfl hl.1 rfl (lv_room (Nat.le_of_ble_eq_true rfl)) dX4_discriminant_56 ⟨Nat.zero_le _, Nat.zero_le _⟩) hP hD hS hA [0, 1, 2, 3, 4, 5, 6] [] rfl rfl rfl (by decide) (fun H locs hP hD hS => ?_)
        have hP : va_P (dC, dI) vwCl [(th, .inr (4, [.int (0 : Int32), .int w17, .int w18, .ref tqA, .ref tqB, .ref tqC, .long ta, .long tb, .long tc, .long tp, .long tq, .long tr, .long ts, .int tsome, .ref tqL, .int tlet, .ref tqW, .ref tqO])), (tqA, .inl (cyJ, 40, .inr (.inl w19))), (tqB, .inl (cyJ, 40, .inr (.inl w20))), (tqC, .inl (cyJ, 40, .inr (.inl w21))), (tqL, .inl (cyJ, 7, .inr (.inl tlast))), (tqW, .inl (cyC, 40, .inl twd)), (tqO, .inl (cyI, 5, .inl topn))] H := hP
        have hD : va_D A [(th, .inr (4, [.int (0 : Int32), .int w17, .int w18, .ref tqA, .ref tqB, .ref tqC, .long ta, .long tb, .long tc, .long tp, .long tq, .long tr, .long ts, .int tsome, .ref tqL, .int tlet, .ref tqW, .ref tqO])), (tqA, .inl (cyJ, 40, .inr (.inl w19))), (tqB, .inl (cyJ, 40, .inr (.inl w20))), (tqC, .inl (cyJ, 40, .inr (.inl w21))), (tqL, .inl (cyJ, 7, .inr (.inl tlast))), (tqW, .inl (cyC, 40, .inl twd)), (tqO, .inl (cyI, 5, .inl topn))] := hD
        refine lv_pop hx hb dX4_discriminant_59 rfl ?_
        refine lv_aload_n hx hb dX4_discriminant_60 rfl (lv_at hl 1 rfl) ?_
        refine lv_iconst (v := 2) hx hb dX4_discriminant_61 (by decide) ?_
        obtain ⟨r23, w24, hk25, h⟩ := dm_b2s h
        refine mc_i (wr := []) (va_runV (As := [.int (2 : Int32)]) (rest := []) ⟨hx, hb, hml, hown, hts⟩ (c_X4_refuse l dC dI cyI cyJ cyC th tqA tqB tqC tqL tqW tqO H.size (0 : Int32) w17 w18 w19 w20 w21 ta tb tc tp tq tr ts tsome tlast tlet twd topn (2 : Int32) r23 w24 hk25) (cwV 1 hts gX4_discriminant_X4_refuse rfl rfl rfl (by decide +kernel) ⟨(Nat.le_of_ble_eq_true rfl), (Nat.le_of_ble_eq_true rfl)⟩) (mc_preV hK (hP.sub (ws' := [(th, .inr (4, [.int (0 : Int32), .int w17, .int w18, .ref tqA, .ref tqB, .ref tqC, .long ta, .long tb, .long tc, .long tp, .long tq, .long tr, .long ts, .int tsome, .ref tqL, .int tlet, .ref tqW, .ref tqO])), (tqA, .inl (cyJ, 40, .inr (.inl w19))), (tqB, .inl (cyJ, 40, .inr (.inl w20))), (tqC, .inl (cyJ, 40, .inr (.inl w21))), (tqL, .inl (cyJ, 7, .inr (.inl tlast))), (tqW, .inl (cyC, 40, .inl twd)), (tqO, .inl (cyI, 5, .inl topn))]) [0, 1, 2, 3, 4, 5, 6] rfl) (hD.sub (ws' := [(th, .inr (4, [.int (0 : Int32), .int w17, .int w18, .ref tqA, .ref tqB, .ref tqC, .long ta, .long tb, .long tc, .long tp, .long tq, .long tr, .long ts, .int tsome, .ref tqL, .int tlet, .ref tqW, .ref tqO])), (tqA, .inl (cyJ, 40, .inr (.inl w19))), (tqB, .inl (cyJ, 40, .inr (.inl w20))), (tqC, .inl (cyJ, 40, .inr (.inl w21))), (tqL, .inl (cyJ, 7, .inr (.inl tlast))), (tqW, .inl (cyC, 40, .inl twd)), (tqO, .inl (cyI, 5, .inl topn))]) [0, 1, 2, 3, 4, 5, 6] (by decide) rfl) hnw rfl rfl) rfl rfl hl.1 rfl (lv_room (Nat.le_of_ble_eq_true rfl)) dX4_discriminant_62 ⟨Nat.zero_le _, Nat.zero_le _⟩) hP hD hS hA [0, 1, 2, 3, 4, 5, 6] [] rfl rfl rfl (by decide) (fun H locs hP hD hS => ?_)
        have hP : va_P (dC, dI) vwCl [(th, .inr (4, [.int w24, .int w17, .int w18, .ref tqA, .ref tqB, .ref tqC, .long ta, .long tb, .long tc, .long tp, .long tq, .long tr, .long ts, .int tsome, .ref tqL, .int tlet, .ref tqW, .ref tqO])), (tqA, .inl (cyJ, 40, .inr (.inl w19))), (tqB, .inl (cyJ, 40, .inr (.inl w20))), (tqC, .inl (cyJ, 40, .inr (.inl w21))), (tqL, .inl (cyJ, 7, .inr (.inl tlast))), (tqW, .inl (cyC, 40, .inl twd)), (tqO, .inl (cyI, 5, .inl topn))] H := hP
        have hD : va_D A [(th, .inr (4, [.int w24, .int w17, .int w18, .ref tqA, .ref tqB, .ref tqC, .long ta, .long tb, .long tc, .long tp, .long tq, .long tr, .long ts, .int tsome, .ref tqL, .int tlet, .ref tqW, .ref tqO])), (tqA, .inl (cyJ, 40, .inr (.inl w19))), (tqB, .inl (cyJ, 40, .inr (.inl w20))), (tqC, .inl (cyJ, 40, .inr (.inl w21))), (tqL, .inl (cyJ, 7, .inr (.inl tlast))), (tqW, .inl (cyC, 40, .inl twd)), (tqO, .inl (cyI, 5, .inl topn))] := hD
        obtain ⟨hE0, hE1, hE2, hE3, hE4, hE5, hE6⟩ := dm_i7 h
        subst hE0; subst hE1; subst hE2; subst hE3; subst hE4; subst hE5; subst hE6
        rw [hQQ]
        have hP9 := hP.sub (ws' := [(th, .inr (4, [.int w24, .int w17, .int w18, .ref tqA, .ref tqB, .ref tqC, .long ta, .long tb, .long tc, .long tp, .long tq, .long tr, .long ts, .int tsome, .ref tqL, .int tlet, .ref tqW, .ref tqO])), (tqA, .inl (cyJ, 40, .inr (.inl w19))), (tqB, .inl (cyJ, 40, .inr (.inl w20))), (tqC, .inl (cyJ, 40, .inr (.inl w21))), (tqL, .inl (cyJ, 7, .inr (.inl tlast))), (tqW, .inl (cyC, 40, .inl twd)), (tqO, .inl (cyI, 5, .inl topn))]) [0, 1, 2, 3, 4, 5, 6] rfl
        have hD9 := hD.sub (ws' := [(th, .inr (4, [.int w24, .int w17, .int w18, .ref tqA, .ref tqB, .ref tqC, .long ta, .long tb, .long tc, .long tp, .long tq, .long tr, .long ts, .int tsome, .ref tqL, .int tlet, .ref tqW, .ref tqO])), (tqA, .inl (cyJ, 40, .inr (.inl w19))), (tqB, .inl (cyJ, 40, .inr (.inl w20))), (tqC, .inl (cyJ, 40, .inr (.inl w21))), (tqL, .inl (cyJ, 7, .inr (.inl tlast))), (tqW, .inl (cyC, 40, .inl twd)), (tqO, .inl (cyI, 5, .inl topn))]) [0, 1, 2, 3, 4, 5, 6] (by decide) rfl
        exact W.iret (v := r23) hx hb hr (fun t ht hW => ⟨⟨r23, (), rfl, rfl, by rw [ht]; exact hP9, hD9⟩, hS.F ht⟩) hS.2.2 dX4_discriminant_65
      · have h := dm_f hc15 h
        refine lv_aload_n hx hb dX4_discriminant_49 rfl (lv_at hl 1 rfl) ?_
        refine va_get (D := (dC, dI)) (ci := 4) (v := .int w10) (C := RX4) (T := TX4) (N := 18) hx hb hts hinX4 hown hK hP 0 rfl rfl 2 (by decide) (hts (.fieldLink RX4 56 "FormDeskModel" "classes" "I") (by decide +kernel)) (fun _ h9 => h9) rfl dX4_discriminant_50 ?_
        obtain ⟨hE0, hE1, hE2, hE3, hE4, hE5, hE6⟩ := dm_i7 h
        subst hE0; subst hE1; subst hE2; subst hE3; subst hE4; subst hE5; subst hE6
        rw [hQQ]
        have hP9 := hP.sub (ws' := [(th, .inr (4, [.int (0 : Int32), .int w9, .int w10, .ref tqA, .ref tqB, .ref tqC, .long ta, .long tb, .long tc, .long tp, .long tq, .long tr, .long ts, .int tsome, .ref tqL, .int tlet, .ref tqW, .ref tqO])), (tqA, .inl (cyJ, 40, .inr (.inl w11))), (tqB, .inl (cyJ, 40, .inr (.inl w12))), (tqC, .inl (cyJ, 40, .inr (.inl w13))), (tqL, .inl (cyJ, 7, .inr (.inl tlast))), (tqW, .inl (cyC, 40, .inl twd)), (tqO, .inl (cyI, 5, .inl topn))]) [0, 1, 2, 3, 4, 5, 6] rfl
        have hD9 := hD.sub (ws' := [(th, .inr (4, [.int (0 : Int32), .int w9, .int w10, .ref tqA, .ref tqB, .ref tqC, .long ta, .long tb, .long tc, .long tp, .long tq, .long tr, .long ts, .int tsome, .ref tqL, .int tlet, .ref tqW, .ref tqO])), (tqA, .inl (cyJ, 40, .inr (.inl w11))), (tqB, .inl (cyJ, 40, .inr (.inl w12))), (tqC, .inl (cyJ, 40, .inr (.inl w13))), (tqL, .inl (cyJ, 7, .inr (.inl tlast))), (tqW, .inl (cyC, 40, .inl twd)), (tqO, .inl (cyI, 5, .inl topn))]) [0, 1, 2, 3, 4, 5, 6] (by decide) rfl
        exact W.iret (v := w10) hx hb hr (fun t ht hW => ⟨⟨w10, (), rfl, rfl, by rw [ht]; exact hP9, hD9⟩, hS.F ht⟩) hS.2.2 dX4_discriminant_53
    · have h := dm_f hc7 h
      refine lv_aload_n hx hb dX4_discriminant_23 rfl (lv_at hl 0 rfl) ?_
      refine lv_iconst (v := 1) hx hb dX4_discriminant_24 (by decide) ?_
      obtain ⟨r26, w27, hk28, h⟩ := dm_b2s h
      refine mc_i (wr := []) (va_runV (As := [.int (1 : Int32)]) (rest := []) ⟨hx, hb, hml, hown, hts⟩ (c_X4_refuse l dC dI cyI cyJ cyC th tqA tqB tqC tqL tqW tqO H.size tthr tdd tn tla tlb tlc ta tb tc tp tq tr ts tsome tlast tlet twd topn (1 : Int32) r26 w27 hk28) (cwV 1 hts gX4_discriminant_X4_refuse rfl rfl rfl (by decide +kernel) ⟨(Nat.le_of_ble_eq_true rfl), (Nat.le_of_ble_eq_true rfl)⟩) (mc_preV hK (hP.sub (ws' := [(th, .inr (4, [.int tthr, .int tdd, .int tn, .ref tqA, .ref tqB, .ref tqC, .long ta, .long tb, .long tc, .long tp, .long tq, .long tr, .long ts, .int tsome, .ref tqL, .int tlet, .ref tqW, .ref tqO])), (tqA, .inl (cyJ, 40, .inr (.inl tla))), (tqB, .inl (cyJ, 40, .inr (.inl tlb))), (tqC, .inl (cyJ, 40, .inr (.inl tlc))), (tqL, .inl (cyJ, 7, .inr (.inl tlast))), (tqW, .inl (cyC, 40, .inl twd)), (tqO, .inl (cyI, 5, .inl topn))]) [0, 1, 2, 3, 4, 5, 6] rfl) (hD.sub (ws' := [(th, .inr (4, [.int tthr, .int tdd, .int tn, .ref tqA, .ref tqB, .ref tqC, .long ta, .long tb, .long tc, .long tp, .long tq, .long tr, .long ts, .int tsome, .ref tqL, .int tlet, .ref tqW, .ref tqO])), (tqA, .inl (cyJ, 40, .inr (.inl tla))), (tqB, .inl (cyJ, 40, .inr (.inl tlb))), (tqC, .inl (cyJ, 40, .inr (.inl tlc))), (tqL, .inl (cyJ, 7, .inr (.inl tlast))), (tqW, .inl (cyC, 40, .inl twd)), (tqO, .inl (cyI, 5, .inl topn))]) [0, 1, 2, 3, 4, 5, 6] (by decide) rfl) hnw rfl rfl) rfl rfl hl.1 rfl (lv_room (Nat.le_of_ble_eq_true rfl)) dX4_discriminant_25 ⟨Nat.zero_le _, Nat.zero_le _⟩) hP hD hS hA [0, 1, 2, 3, 4, 5, 6] [] rfl rfl rfl (by decide) (fun H locs hP hD hS => ?_)
      have hP : va_P (dC, dI) vwCl [(th, .inr (4, [.int w27, .int tdd, .int tn, .ref tqA, .ref tqB, .ref tqC, .long ta, .long tb, .long tc, .long tp, .long tq, .long tr, .long ts, .int tsome, .ref tqL, .int tlet, .ref tqW, .ref tqO])), (tqA, .inl (cyJ, 40, .inr (.inl tla))), (tqB, .inl (cyJ, 40, .inr (.inl tlb))), (tqC, .inl (cyJ, 40, .inr (.inl tlc))), (tqL, .inl (cyJ, 7, .inr (.inl tlast))), (tqW, .inl (cyC, 40, .inl twd)), (tqO, .inl (cyI, 5, .inl topn))] H := hP
      have hD : va_D A [(th, .inr (4, [.int w27, .int tdd, .int tn, .ref tqA, .ref tqB, .ref tqC, .long ta, .long tb, .long tc, .long tp, .long tq, .long tr, .long ts, .int tsome, .ref tqL, .int tlet, .ref tqW, .ref tqO])), (tqA, .inl (cyJ, 40, .inr (.inl tla))), (tqB, .inl (cyJ, 40, .inr (.inl tlb))), (tqC, .inl (cyJ, 40, .inr (.inl tlc))), (tqL, .inl (cyJ, 7, .inr (.inl tlast))), (tqW, .inl (cyC, 40, .inl twd)), (tqO, .inl (cyI, 5, .inl topn))] := hD
      obtain ⟨hE0, hE1, hE2, hE3, hE4, hE5, hE6⟩ := dm_i7 h
      subst hE0; subst hE1; subst hE2; subst hE3; subst hE4; subst hE5; subst hE6
      rw [hQQ]
      have hP9 := hP.sub (ws' := [(th, .inr (4, [.int w27, .int tdd, .int tn, .ref tqA, .ref tqB, .ref tqC, .long ta, .long tb, .long tc, .long tp, .long tq, .long tr, .long ts, .int tsome, .ref tqL, .int tlet, .ref tqW, .ref tqO])), (tqA, .inl (cyJ, 40, .inr (.inl tla))), (tqB, .inl (cyJ, 40, .inr (.inl tlb))), (tqC, .inl (cyJ, 40, .inr (.inl tlc))), (tqL, .inl (cyJ, 7, .inr (.inl tlast))), (tqW, .inl (cyC, 40, .inl twd)), (tqO, .inl (cyI, 5, .inl topn))]) [0, 1, 2, 3, 4, 5, 6] rfl
      have hD9 := hD.sub (ws' := [(th, .inr (4, [.int w27, .int tdd, .int tn, .ref tqA, .ref tqB, .ref tqC, .long ta, .long tb, .long tc, .long tp, .long tq, .long tr, .long ts, .int tsome, .ref tqL, .int tlet, .ref tqW, .ref tqO])), (tqA, .inl (cyJ, 40, .inr (.inl tla))), (tqB, .inl (cyJ, 40, .inr (.inl tlb))), (tqC, .inl (cyJ, 40, .inr (.inl tlc))), (tqL, .inl (cyJ, 7, .inr (.inl tlast))), (tqW, .inl (cyC, 40, .inl twd)), (tqO, .inl (cyI, 5, .inl topn))]) [0, 1, 2, 3, 4, 5, 6] (by decide) rfl
      exact W.iret (v := r26) hx hb hr (fun t ht hW => ⟨⟨r26, (), rfl, rfl, by rw [ht]; exact hP9, hD9⟩, hS.F ht⟩) hS.2.2 dX4_discriminant_28

def f_X4_isClass (tn : Int32) (p0 : Int32) : Option (Int32) :=
  dm_b1 (f_X4_outside p0 (0 : Int32) (tn - (1 : Int32))) fun r1 =>
  if r1 = 0 then
    some (1 : Int32)
  else
    some (0 : Int32)
set_option maxHeartbeats 4000000 in
set_option maxRecDepth 100000 in
theorem c_X4_isClass (l : Launch) (dC : Nat → ClassId) (dI : Nat → Nat → Nat) (cyI cyJ cyC : ClassId) (th tqA tqB tqC tqL tqW tqO : Nat) (sz : Nat) (tthr : Int32) (tdd : Int32) (tn : Int32) (tla : Nat → Int64) (tlb : Nat → Int64) (tlc : Nat → Int64) (ta : Int64) (tb : Int64) (tc : Int64) (tp : Int64) (tq : Int64) (tr : Int64) (ts : Int64) (tsome : Int32) (tlast : Nat → Int64) (tlet : Int32) (twd : Nat → Int32) (topn : Nat → Int32) (p0 : Int32) (rv : Int32) (hf : f_X4_isClass tn p0 = some rv) : Met l yX4_isClass wsX4_isClass { frames := 1, cells := 0, slots := 0, locals := 22 } (va_Pc [.ref th, .int p0] (mc_Pre (dC, dI) (mc_tys cyI cyJ cyC) [(th, .inr (4, [.int tthr, .int tdd, .int tn, .ref tqA, .ref tqB, .ref tqC, .long ta, .long tb, .long tc, .long tp, .long tq, .long tr, .long ts, .int tsome, .ref tqL, .int tlet, .ref tqW, .ref tqO])), (tqA, .inl (cyJ, 40, .inr (.inl tla))), (tqB, .inl (cyJ, 40, .inr (.inl tlb))), (tqC, .inl (cyJ, 40, .inr (.inl tlc))), (tqL, .inl (cyJ, 7, .inr (.inl tlast))), (tqW, .inl (cyC, 40, .inl twd)), (tqO, .inl (cyI, 5, .inl topn))] sz)) (va_Qi (fun r (_ : Unit) => r = rv) (fun _ t => mc_Post (dC, dI) (va_A [(th, .inr (4, [.int tthr, .int tdd, .int tn, .ref tqA, .ref tqB, .ref tqC, .long ta, .long tb, .long tc, .long tp, .long tq, .long tr, .long ts, .int tsome, .ref tqL, .int tlet, .ref tqW, .ref tqO])), (tqA, .inl (cyJ, 40, .inr (.inl tla))), (tqB, .inl (cyJ, 40, .inr (.inl tlb))), (tqC, .inl (cyJ, 40, .inr (.inl tlc))), (tqL, .inl (cyJ, 7, .inr (.inl tlast))), (tqW, .inl (cyC, 40, .inl twd)), (tqO, .inl (cyI, 5, .inl topn))] sz) [(th, .inr (4, [.int tthr, .int tdd, .int tn, .ref tqA, .ref tqB, .ref tqC, .long ta, .long tb, .long tc, .long tp, .long tq, .long tr, .long ts, .int tsome, .ref tqL, .int tlet, .ref tqW, .ref tqO])), (tqA, .inl (cyJ, 40, .inr (.inl tla))), (tqB, .inl (cyJ, 40, .inr (.inl tlb))), (tqC, .inl (cyJ, 40, .inr (.inl tlc))), (tqL, .inl (cyJ, 7, .inr (.inl tlast))), (tqW, .inl (cyC, 40, .inl twd)), (tqO, .inl (cyI, 5, .inl topn))] t) (va_A [(th, .inr (4, [.int tthr, .int tdd, .int tn, .ref tqA, .ref tqB, .ref tqC, .long ta, .long tb, .long tc, .long tp, .long tq, .long tr, .long ts, .int tsome, .ref tqL, .int tlet, .ref tqW, .ref tqO])), (tqA, .inl (cyJ, 40, .inr (.inl tla))), (tqB, .inl (cyJ, 40, .inr (.inl tlb))), (tqC, .inl (cyJ, 40, .inr (.inl tlc))), (tqL, .inl (cyJ, 7, .inr (.inl tlast))), (tqW, .inl (cyC, 40, .inl twd)), (tqO, .inl (cyI, 5, .inl topn))] sz)) 0 0 (va_A [(th, .inr (4, [.int tthr, .int tdd, .int tn, .ref tqA, .ref tqB, .ref tqC, .long ta, .long tb, .long tc, .long tp, .long tq, .long tr, .long ts, .int tsome, .ref tqL, .int tlet, .ref tqW, .ref tqO])), (tqA, .inl (cyJ, 40, .inr (.inl tla))), (tqB, .inl (cyJ, 40, .inr (.inl tlb))), (tqC, .inl (cyJ, 40, .inr (.inl tlc))), (tqL, .inl (cyJ, 7, .inr (.inl tlast))), (tqW, .inl (cyC, 40, .inl twd)), (tqO, .inl (cyI, 5, .inl topn))] sz) := by
  refine Met.ofW (cc := cX4_isClass) (maxL := 2) (ret := (some .boolean)) (by decide +kernel) rfl ?_
  intro p e s m args below meth c s₁ B hml hv
  obtain ⟨rfl, hsz, hP, hK, hD0, hnw⟩ := hv
  have hx := B.exec
  have hb := B.bytes
  have hr := B.returns
  have hts := atoms_spec (ws := wsX4_isClass) B.pre
  have hown : s.vm.findClass RX4 = some m.cls := findClass_of_methodNamed B.named
  have hlocks := B.notSynchronized
  have hinX4 : ∀ w ∈ wsX40, w ∈ wsX4_isClass := by decide +kernel
  subst hsz
  have hD := hD0.self (sz := s.heap.size)
  generalize hAe : va_A [(th, .inr (4, [.int tthr, .int tdd, .int tn, .ref tqA, .ref tqB, .ref tqC, .long ta, .long tb, .long tc, .long tp, .long tq, .long tr, .long ts, .int tsome, .ref tqL, .int tlet, .ref tqW, .ref tqO])), (tqA, .inl (cyJ, 40, .inr (.inl tla))), (tqB, .inl (cyJ, 40, .inr (.inl tlb))), (tqC, .inl (cyJ, 40, .inr (.inl tlc))), (tqL, .inl (cyJ, 7, .inr (.inl tlast))), (tqW, .inl (cyC, 40, .inl twd)), (tqO, .inl (cyI, 5, .inl topn))] s.heap.size = A at hD ⊢
  have hA : ∀ q : Nat, s.heap.size ≤ q → A q := fun q h => by rw [← hAe]; exact Or.inr h
  have hS : va_S A s.heap s.heap [] := va_S.rf
  have hP : va_P (dC, dI) vwCl [(th, .inr (4, [.int tthr, .int tdd, .int tn, .ref tqA, .ref tqB, .ref tqC, .long ta, .long tb, .long tc, .long tp, .long tq, .long tr, .long ts, .int tsome, .ref tqL, .int tlet, .ref tqW, .ref tqO])), (tqA, .inl (cyJ, 40, .inr (.inl tla))), (tqB, .inl (cyJ, 40, .inr (.inl tlb))), (tqC, .inl (cyJ, 40, .inr (.inl tlc))), (tqL, .inl (cyJ, 7, .inr (.inl tlast))), (tqW, .inl (cyC, 40, .inl twd)), (tqO, .inl (cyI, 5, .inl topn))] s.heap := hP
  have hl := lv_entry ([.ref th, .int p0]) (n := 2) (Nat.le_of_ble_eq_true rfl)
  rw [lg_entry_eq]
  generalize (lg_sl ([.ref th, .int p0]) ++ List.replicate (2 - (lg_sl ([.ref th, .int p0])).length) Slot.unset).toArray = ls at hl ⊢
  have hl : lv_has ls 2 [(0, .ref th), (1, .int p0)] := hl
  obtain ⟨QQ, hQQ⟩ : ∃ Q, Q = MQ below (va_Qi (fun r (_ : Unit) => r = rv) (fun _ t => mc_Post (dC, dI) A [(th, .inr (4, [.int tthr, .int tdd, .int tn, .ref tqA, .ref tqB, .ref tqC, .long ta, .long tb, .long tc, .long tp, .long tq, .long tr, .long ts, .int tsome, .ref tqL, .int tlet, .ref tqW, .ref tqO])), (tqA, .inl (cyJ, 40, .inr (.inl tla))), (tqB, .inl (cyJ, 40, .inr (.inl tlb))), (tqC, .inl (cyJ, 40, .inr (.inl tlc))), (tqL, .inl (cyJ, 7, .inr (.inl tlast))), (tqW, .inl (cyC, 40, .inl twd)), (tqO, .inl (cyI, 5, .inl topn))] t) A) ([Value.ref th, Value.int p0] : List Value).toArray s 0 0 A := ⟨_, rfl⟩
  rw [← hQQ]
  have h := hf
  unfold f_X4_isClass at h
  refine lv_iload_n hx hb dX4_isClass_0 rfl (lv_at hl 1 rfl) ?_
  refine lv_iconst (v := 0) hx hb dX4_isClass_1 (by decide) ?_
  refine lv_aload_n hx hb dX4_isClass_2 rfl (lv_at hl 0 rfl) ?_
  refine va_get (D := (dC, dI)) (ci := 4) (v := .int tn) (C := RX4) (T := TX4) (N := 18) hx hb hts hinX4 hown hK hP 0 rfl rfl 2 (by decide) (hts (.fieldLink RX4 56 "FormDeskModel" "classes" "I") (by decide +kernel)) (fun _ h9 => h9) rfl dX4_isClass_3 ?_
  refine lv_iconst (v := 1) hx hb dX4_isClass_6 (by decide) ?_
  refine lv_isub hx hb dX4_isClass_7 ?_
  obtain ⟨r1, hk2, h⟩ := dm_b1s h
  refine mc_i (wr := [(th, .inr (4, [.int tthr, .int tdd, .int tn, .ref tqA, .ref tqB, .ref tqC, .long ta, .long tb, .long tc, .long tp, .long tq, .long tr, .long ts, .int tsome, .ref tqL, .int tlet, .ref tqW, .ref tqO])), (tqA, .inl (cyJ, 40, .inr (.inl tla))), (tqB, .inl (cyJ, 40, .inr (.inl tlb))), (tqC, .inl (cyJ, 40, .inr (.inl tlc))), (tqL, .inl (cyJ, 7, .inr (.inl tlast))), (tqW, .inl (cyC, 40, .inl twd)), (tqO, .inl (cyI, 5, .inl topn))]) (va_runS (As := [.int p0, .int (0 : Int32), .int (tn - (1 : Int32))]) (rest := []) ⟨hx, hb, hml, hown, hts⟩ (c_X4_outside l dC dI cyI cyJ cyC s.heap.size p0 (0 : Int32) (tn - (1 : Int32)) r1 hk2) (va_cwS 3 hts gX4_isClass_X4_outside rfl rfl rfl (by decide +kernel) ⟨(Nat.le_of_ble_eq_true rfl), (Nat.le_of_ble_eq_true rfl)⟩) (mc_preS hK (hP.sub (ws' := []) [] rfl) (hD.sub (ws' := []) [] (by decide) rfl) hnw) rfl rfl hl.1 rfl (lv_room (Nat.le_of_ble_eq_true rfl)) dX4_isClass_8 ⟨Nat.zero_le _, Nat.zero_le _⟩) hP hD hS hA [] [0, 1, 2, 3, 4, 5, 6] rfl rfl rfl (by decide) (fun H locs hP hD hS => ?_)
  have hP : va_P (dC, dI) vwCl [(th, .inr (4, [.int tthr, .int tdd, .int tn, .ref tqA, .ref tqB, .ref tqC, .long ta, .long tb, .long tc, .long tp, .long tq, .long tr, .long ts, .int tsome, .ref tqL, .int tlet, .ref tqW, .ref tqO])), (tqA, .inl (cyJ, 40, .inr (.inl tla))), (tqB, .inl (cyJ, 40, .inr (.inl tlb))), (tqC, .inl (cyJ, 40, .inr (.inl tlc))), (tqL, .inl (cyJ, 7, .inr (.inl tlast))), (tqW, .inl (cyC, 40, .inl twd)), (tqO, .inl (cyI, 5, .inl topn))] H := hP
  have hD : va_D A [(th, .inr (4, [.int tthr, .int tdd, .int tn, .ref tqA, .ref tqB, .ref tqC, .long ta, .long tb, .long tc, .long tp, .long tq, .long tr, .long ts, .int tsome, .ref tqL, .int tlet, .ref tqW, .ref tqO])), (tqA, .inl (cyJ, 40, .inr (.inl tla))), (tqB, .inl (cyJ, 40, .inr (.inl tlb))), (tqC, .inl (cyJ, 40, .inr (.inl tlc))), (tqL, .inl (cyJ, 7, .inr (.inl tlast))), (tqW, .inl (cyC, 40, .inl twd)), (tqO, .inl (cyI, 5, .inl topn))] := hD
  refine lv_if_ne (tgt := 18) hx hb dX4_isClass_11 (by decide) (fun hc3 => ?_) (fun hc3 => ?_)
  · have h := dm_f hc3 h
    refine lv_iconst (v := 0) hx hb dX4_isClass_18 (by decide) ?_
    obtain hE0 := dm_i1 h
    subst hE0
    rw [hQQ]
    have hP9 := hP.sub (ws' := [(th, .inr (4, [.int tthr, .int tdd, .int tn, .ref tqA, .ref tqB, .ref tqC, .long ta, .long tb, .long tc, .long tp, .long tq, .long tr, .long ts, .int tsome, .ref tqL, .int tlet, .ref tqW, .ref tqO])), (tqA, .inl (cyJ, 40, .inr (.inl tla))), (tqB, .inl (cyJ, 40, .inr (.inl tlb))), (tqC, .inl (cyJ, 40, .inr (.inl tlc))), (tqL, .inl (cyJ, 7, .inr (.inl tlast))), (tqW, .inl (cyC, 40, .inl twd)), (tqO, .inl (cyI, 5, .inl topn))]) [0, 1, 2, 3, 4, 5, 6] rfl
    have hD9 := hD.sub (ws' := [(th, .inr (4, [.int tthr, .int tdd, .int tn, .ref tqA, .ref tqB, .ref tqC, .long ta, .long tb, .long tc, .long tp, .long tq, .long tr, .long ts, .int tsome, .ref tqL, .int tlet, .ref tqW, .ref tqO])), (tqA, .inl (cyJ, 40, .inr (.inl tla))), (tqB, .inl (cyJ, 40, .inr (.inl tlb))), (tqC, .inl (cyJ, 40, .inr (.inl tlc))), (tqL, .inl (cyJ, 7, .inr (.inl tlast))), (tqW, .inl (cyC, 40, .inl twd)), (tqO, .inl (cyI, 5, .inl topn))]) [0, 1, 2, 3, 4, 5, 6] (by decide) rfl
    exact W.zret (v := (0 : Int32)) hx hb hr rfl (fun t ht hW => ⟨⟨(0 : Int32), (), rfl, rfl, by rw [ht]; exact hP9, hD9⟩, hS.F ht⟩) hS.2.2 dX4_isClass_19
  · have h := dm_t hc3 h
    refine lv_iconst (v := 1) hx hb dX4_isClass_14 (by decide) ?_
    refine lv_goto (tgt := 19) hx hb dX4_isClass_15 (by decide) ?_
    obtain hE0 := dm_i1 h
    subst hE0
    rw [hQQ]
    have hP9 := hP.sub (ws' := [(th, .inr (4, [.int tthr, .int tdd, .int tn, .ref tqA, .ref tqB, .ref tqC, .long ta, .long tb, .long tc, .long tp, .long tq, .long tr, .long ts, .int tsome, .ref tqL, .int tlet, .ref tqW, .ref tqO])), (tqA, .inl (cyJ, 40, .inr (.inl tla))), (tqB, .inl (cyJ, 40, .inr (.inl tlb))), (tqC, .inl (cyJ, 40, .inr (.inl tlc))), (tqL, .inl (cyJ, 7, .inr (.inl tlast))), (tqW, .inl (cyC, 40, .inl twd)), (tqO, .inl (cyI, 5, .inl topn))]) [0, 1, 2, 3, 4, 5, 6] rfl
    have hD9 := hD.sub (ws' := [(th, .inr (4, [.int tthr, .int tdd, .int tn, .ref tqA, .ref tqB, .ref tqC, .long ta, .long tb, .long tc, .long tp, .long tq, .long tr, .long ts, .int tsome, .ref tqL, .int tlet, .ref tqW, .ref tqO])), (tqA, .inl (cyJ, 40, .inr (.inl tla))), (tqB, .inl (cyJ, 40, .inr (.inl tlb))), (tqC, .inl (cyJ, 40, .inr (.inl tlc))), (tqL, .inl (cyJ, 7, .inr (.inl tlast))), (tqW, .inl (cyC, 40, .inl twd)), (tqO, .inl (cyI, 5, .inl topn))]) [0, 1, 2, 3, 4, 5, 6] (by decide) rfl
    exact W.zret (v := (1 : Int32)) hx hb hr rfl (fun t ht hW => ⟨⟨(1 : Int32), (), rfl, rfl, by rw [ht]; exact hP9, hD9⟩, hS.F ht⟩) hS.2.2 dX4_isClass_19
