def f_X4_classOf_L6 (tn : Int32) (tla : Nat → Int64) (tlb : Nat → Int64) (tlc : Nat → Int64) (p0 : Int64) (p1 : Int64) (p2 : Int64)  : Nat → Int32 → Int32 → Option (Int32)
  | 0, _, _ => none
  | n + 1, v1, v2 =>
    if tn ≤ v1 then
      some v2
    else
      dm_g (¬ (v1 < 0 ∨ 40 ≤ (v1).toNatClampNeg)) <|
      if (tla (v1).toNatClampNeg) = p0 then
        dm_g (¬ (v1 < 0 ∨ 40 ≤ (v1).toNatClampNeg)) <|
        if (tlb (v1).toNatClampNeg) = p1 then
          dm_g (¬ (v1 < 0 ∨ 40 ≤ (v1).toNatClampNeg)) <|
          if (tlc (v1).toNatClampNeg) = p2 then
            dm_let (v1 + (1 : Int32)) fun x13 =>
            f_X4_classOf_L6 tn tla tlb tlc p0 p1 p2 n x13 v1
          else
            dm_let (v1 + (1 : Int32)) fun x12 =>
            f_X4_classOf_L6 tn tla tlb tlc p0 p1 p2 n x12 v2
        else
          dm_let (v1 + (1 : Int32)) fun x9 =>
          f_X4_classOf_L6 tn tla tlb tlc p0 p1 p2 n x9 v2
      else
        dm_let (v1 + (1 : Int32)) fun x6 =>
        f_X4_classOf_L6 tn tla tlb tlc p0 p1 p2 n x6 v2
def f_X4_classOf (tn : Int32) (tla : Nat → Int64) (tlb : Nat → Int64) (tlc : Nat → Int64) (p0 : Int64) (p1 : Int64) (p2 : Int64) : Option (Int32) :=
  f_X4_classOf_L6 tn tla tlb tlc p0 p1 p2 100000 (0 : Int32) (-1 : Int32)
set_option maxHeartbeats 4000000 in
set_option maxRecDepth 100000 in
theorem c_X4_classOf (l : Launch) (dC : Nat → ClassId) (dI : Nat → Nat → Nat) (cyI cyJ cyC : ClassId) (th tqA tqB tqC tqL tqW tqO : Nat) (sz : Nat) (tthr : Int32) (tdd : Int32) (tn : Int32) (tla : Nat → Int64) (tlb : Nat → Int64) (tlc : Nat → Int64) (ta : Int64) (tb : Int64) (tc : Int64) (tp : Int64) (tq : Int64) (tr : Int64) (ts : Int64) (tsome : Int32) (tlast : Nat → Int64) (tlet : Int32) (twd : Nat → Int32) (topn : Nat → Int32) (p0 : Int64) (p1 : Int64) (p2 : Int64) (rv : Int32) (hf : f_X4_classOf tn tla tlb tlc p0 p1 p2 = some rv) : Met l yX4_classOf wsX4_classOf { frames := 0, cells := 0, slots := 0, locals := 0 } (va_Pc [.ref th, .long p0, .long p1, .long p2] (mc_Pre (dC, dI) (mc_tys cyI cyJ cyC) [(th, .inr (4, [.int tthr, .int tdd, .int tn, .ref tqA, .ref tqB, .ref tqC, .long ta, .long tb, .long tc, .long tp, .long tq, .long tr, .long ts, .int tsome, .ref tqL, .int tlet, .ref tqW, .ref tqO])), (tqA, .inl (cyJ, 40, .inr (.inl tla))), (tqB, .inl (cyJ, 40, .inr (.inl tlb))), (tqC, .inl (cyJ, 40, .inr (.inl tlc))), (tqL, .inl (cyJ, 7, .inr (.inl tlast))), (tqW, .inl (cyC, 40, .inl twd)), (tqO, .inl (cyI, 5, .inl topn))] sz)) (va_Qi (fun r (_ : Unit) => r = rv) (fun _ t => mc_Post (dC, dI) (va_A [(th, .inr (4, [.int tthr, .int tdd, .int tn, .ref tqA, .ref tqB, .ref tqC, .long ta, .long tb, .long tc, .long tp, .long tq, .long tr, .long ts, .int tsome, .ref tqL, .int tlet, .ref tqW, .ref tqO])), (tqA, .inl (cyJ, 40, .inr (.inl tla))), (tqB, .inl (cyJ, 40, .inr (.inl tlb))), (tqC, .inl (cyJ, 40, .inr (.inl tlc))), (tqL, .inl (cyJ, 7, .inr (.inl tlast))), (tqW, .inl (cyC, 40, .inl twd)), (tqO, .inl (cyI, 5, .inl topn))] sz) [(th, .inr (4, [.int tthr, .int tdd, .int tn, .ref tqA, .ref tqB, .ref tqC, .long ta, .long tb, .long tc, .long tp, .long tq, .long tr, .long ts, .int tsome, .ref tqL, .int tlet, .ref tqW, .ref tqO])), (tqA, .inl (cyJ, 40, .inr (.inl tla))), (tqB, .inl (cyJ, 40, .inr (.inl tlb))), (tqC, .inl (cyJ, 40, .inr (.inl tlc))), (tqL, .inl (cyJ, 7, .inr (.inl tlast))), (tqW, .inl (cyC, 40, .inl twd)), (tqO, .inl (cyI, 5, .inl topn))] t) (va_A [(th, .inr (4, [.int tthr, .int tdd, .int tn, .ref tqA, .ref tqB, .ref tqC, .long ta, .long tb, .long tc, .long tp, .long tq, .long tr, .long ts, .int tsome, .ref tqL, .int tlet, .ref tqW, .ref tqO])), (tqA, .inl (cyJ, 40, .inr (.inl tla))), (tqB, .inl (cyJ, 40, .inr (.inl tlb))), (tqC, .inl (cyJ, 40, .inr (.inl tlc))), (tqL, .inl (cyJ, 7, .inr (.inl tlast))), (tqW, .inl (cyC, 40, .inl twd)), (tqO, .inl (cyI, 5, .inl topn))] sz)) 0 0 (va_A [(th, .inr (4, [.int tthr, .int tdd, .int tn, .ref tqA, .ref tqB, .ref tqC, .long ta, .long tb, .long tc, .long tp, .long tq, .long tr, .long ts, .int tsome, .ref tqL, .int tlet, .ref tqW, .ref tqO])), (tqA, .inl (cyJ, 40, .inr (.inl tla))), (tqB, .inl (cyJ, 40, .inr (.inl tlb))), (tqC, .inl (cyJ, 40, .inr (.inl tlc))), (tqL, .inl (cyJ, 7, .inr (.inl tlast))), (tqW, .inl (cyC, 40, .inl twd)), (tqO, .inl (cyI, 5, .inl topn))] sz) := by
  refine Met.ofW (cc := cX4_classOf) (maxL := 9) (ret := (some .int)) (by decide +kernel) rfl ?_
  intro p e s m args below meth c s₁ B hml hv
  obtain ⟨rfl, hsz, hP, hK, hD0, hnw⟩ := hv
  have hx := B.exec
  have hb := B.bytes
  have hr := B.returns
  have hts := atoms_spec (ws := wsX4_classOf) B.pre
  have hown : s.vm.findClass RX4 = some m.cls := findClass_of_methodNamed B.named
  have hlocks := B.notSynchronized
  have hinX4 : ∀ w ∈ wsX40, w ∈ wsX4_classOf := by decide +kernel
  subst hsz
  have hD := hD0.self (sz := s.heap.size)
  generalize hAe : va_A [(th, .inr (4, [.int tthr, .int tdd, .int tn, .ref tqA, .ref tqB, .ref tqC, .long ta, .long tb, .long tc, .long tp, .long tq, .long tr, .long ts, .int tsome, .ref tqL, .int tlet, .ref tqW, .ref tqO])), (tqA, .inl (cyJ, 40, .inr (.inl tla))), (tqB, .inl (cyJ, 40, .inr (.inl tlb))), (tqC, .inl (cyJ, 40, .inr (.inl tlc))), (tqL, .inl (cyJ, 7, .inr (.inl tlast))), (tqW, .inl (cyC, 40, .inl twd)), (tqO, .inl (cyI, 5, .inl topn))] s.heap.size = A at hD ⊢
  have hA : ∀ q : Nat, s.heap.size ≤ q → A q := fun q h => by rw [← hAe]; exact Or.inr h
  have hS : va_S A s.heap s.heap [] := va_S.rf
  have hP : va_P (dC, dI) vwCl [(th, .inr (4, [.int tthr, .int tdd, .int tn, .ref tqA, .ref tqB, .ref tqC, .long ta, .long tb, .long tc, .long tp, .long tq, .long tr, .long ts, .int tsome, .ref tqL, .int tlet, .ref tqW, .ref tqO])), (tqA, .inl (cyJ, 40, .inr (.inl tla))), (tqB, .inl (cyJ, 40, .inr (.inl tlb))), (tqC, .inl (cyJ, 40, .inr (.inl tlc))), (tqL, .inl (cyJ, 7, .inr (.inl tlast))), (tqW, .inl (cyC, 40, .inl twd)), (tqO, .inl (cyI, 5, .inl topn))] s.heap := hP
  have hl := lv_entry ([.ref th, .long p0, .long p1, .long p2]) (n := 9) (Nat.le_of_ble_eq_true rfl)
  rw [lg_entry_eq]
  generalize (lg_sl ([.ref th, .long p0, .long p1, .long p2]) ++ List.replicate (9 - (lg_sl ([.ref th, .long p0, .long p1, .long p2])).length) Slot.unset).toArray = ls at hl ⊢
  have hl : lv_has ls 9 [(0, .ref th), (1, .long p0), (3, .long p1), (5, .long p2)] := hl
  obtain ⟨QQ, hQQ⟩ : ∃ Q, Q = MQ below (va_Qi (fun r (_ : Unit) => r = rv) (fun _ t => mc_Post (dC, dI) A [(th, .inr (4, [.int tthr, .int tdd, .int tn, .ref tqA, .ref tqB, .ref tqC, .long ta, .long tb, .long tc, .long tp, .long tq, .long tr, .long ts, .int tsome, .ref tqL, .int tlet, .ref tqW, .ref tqO])), (tqA, .inl (cyJ, 40, .inr (.inl tla))), (tqB, .inl (cyJ, 40, .inr (.inl tlb))), (tqC, .inl (cyJ, 40, .inr (.inl tlc))), (tqL, .inl (cyJ, 7, .inr (.inl tlast))), (tqW, .inl (cyC, 40, .inl twd)), (tqO, .inl (cyI, 5, .inl topn))] t) A) ([Value.ref th, Value.long p0, Value.long p1, Value.long p2] : List Value).toArray s 0 0 A := ⟨_, rfl⟩
  rw [← hQQ]
  have h := hf
  unfold f_X4_classOf at h
  refine lv_iconst (v := -1) hx hb dX4_classOf_0 (by decide) ?_
  refine lv_istore (lv' := [(7, .int (-1 : Int32)), (0, .ref th), (1, .long p0), (3, .long p1), (5, .long p2)]) hx hb dX4_classOf_1 hl (by decide) rfl (fun ls hl => ?_)
  refine lv_iconst (v := 0) hx hb dX4_classOf_3 (by decide) ?_
  refine lv_istore (lv' := [(8, .int (0 : Int32)), (7, .int (-1 : Int32)), (0, .ref th), (1, .long p0), (3, .long p1), (5, .long p2)]) hx hb dX4_classOf_4 hl (by decide) rfl (fun ls hl => ?_)
  have L6 : ∀ (n6 : Nat) (v1 : Int32) (v2 : Int32) (H : Heap) (locs : List Loc) (ls : Array Slot), f_X4_classOf_L6 tn tla tlb tlc p0 p1 p2 n6 v1 v2 = some rv → va_P (dC, dI) vwCl [(th, .inr (4, [.int tthr, .int tdd, .int tn, .ref tqA, .ref tqB, .ref tqC, .long ta, .long tb, .long tc, .long tp, .long tq, .long tr, .long ts, .int tsome, .ref tqL, .int tlet, .ref tqW, .ref tqO])), (tqA, .inl (cyJ, 40, .inr (.inl tla))), (tqB, .inl (cyJ, 40, .inr (.inl tlb))), (tqC, .inl (cyJ, 40, .inr (.inl tlc))), (tqL, .inl (cyJ, 7, .inr (.inl tlast))), (tqW, .inl (cyC, 40, .inl twd)), (tqO, .inl (cyI, 5, .inl topn))] H → va_D A [(th, .inr (4, [.int tthr, .int tdd, .int tn, .ref tqA, .ref tqB, .ref tqC, .long ta, .long tb, .long tc, .long tp, .long tq, .long tr, .long ts, .int tsome, .ref tqL, .int tlet, .ref tqW, .ref tqO])), (tqA, .inl (cyJ, 40, .inr (.inl tla))), (tqB, .inl (cyJ, 40, .inr (.inl tlb))), (tqC, .inl (cyJ, 40, .inr (.inl tlc))), (tqL, .inl (cyJ, 7, .inr (.inl tlast))), (tqW, .inl (cyC, 40, .inl twd)), (tqO, .inl (cyI, 5, .inl topn))] → va_S A s.heap H locs → lv_has ls 9 [(8, .int v1), (7, .int v2), (0, .ref th), (1, .long p0), (3, .long p1), (5, .long p2)] → W p l e (headSpec wsX4_classOf { frames := 0, cells := 0, slots := 0, locals := 0 }).room s m ([Value.ref th, Value.long p0, Value.long p1, Value.long p2] : List Value).toArray below meth c H locs 0 0 QQ (F0 m 6 ls []) := by
    intro n6
    induction n6 with
    | zero =>
      intro v1 v2 H locs ls h
      exact nomatch (show (none : Option (Int32)) = some _ from h)
    | succ n6 ih6 =>
      intro v1 v2 H locs ls h hP hD hS hl
      rw [f_X4_classOf_L6] at h
      refine lv_iload hx hb dX4_classOf_6 (lv_at hl 0 rfl) ?_
      refine lv_aload_n hx hb dX4_classOf_8 rfl (lv_at hl 2 rfl) ?_
      refine va_get (D := (dC, dI)) (ci := 4) (v := .int tn) (C := RX4) (T := TX4) (N := 18) hx hb hts hinX4 hown hK hP 0 rfl rfl 2 (by decide) (hts (.fieldLink RX4 56 "FormDeskModel" "classes" "I") (by decide +kernel)) (fun _ h9 => h9) rfl dX4_classOf_9 ?_
      refine lv_icmp_ge (tgt := 67) hx hb dX4_classOf_12 (by decide) (fun hc3 => ?_) (fun hc3 => ?_)
      · have h := dm_t hc3 h
        refine lv_iload hx hb dX4_classOf_67 (lv_at hl 1 rfl) ?_
        obtain hE0 := dm_i1 h
        subst hE0
        rw [hQQ]
        have hP9 := hP.sub (ws' := [(th, .inr (4, [.int tthr, .int tdd, .int tn, .ref tqA, .ref tqB, .ref tqC, .long ta, .long tb, .long tc, .long tp, .long tq, .long tr, .long ts, .int tsome, .ref tqL, .int tlet, .ref tqW, .ref tqO])), (tqA, .inl (cyJ, 40, .inr (.inl tla))), (tqB, .inl (cyJ, 40, .inr (.inl tlb))), (tqC, .inl (cyJ, 40, .inr (.inl tlc))), (tqL, .inl (cyJ, 7, .inr (.inl tlast))), (tqW, .inl (cyC, 40, .inl twd)), (tqO, .inl (cyI, 5, .inl topn))]) [0, 1, 2, 3, 4, 5, 6] rfl
        have hD9 := hD.sub (ws' := [(th, .inr (4, [.int tthr, .int tdd, .int tn, .ref tqA, .ref tqB, .ref tqC, .long ta, .long tb, .long tc, .long tp, .long tq, .long tr, .long ts, .int tsome, .ref tqL, .int tlet, .ref tqW, .ref tqO])), (tqA, .inl (cyJ, 40, .inr (.inl tla))), (tqB, .inl (cyJ, 40, .inr (.inl tlb))), (tqC, .inl (cyJ, 40, .inr (.inl tlc))), (tqL, .inl (cyJ, 7, .inr (.inl tlast))), (tqW, .inl (cyC, 40, .inl twd)), (tqO, .inl (cyI, 5, .inl topn))]) [0, 1, 2, 3, 4, 5, 6] (by decide) rfl
        exact W.iret (v := v2) hx hb hr (fun t ht hW => ⟨⟨v2, (), rfl, rfl, by rw [ht]; exact hP9, hD9⟩, hS.F ht⟩) hS.2.2 dX4_classOf_69
      · have h := dm_f hc3 h
        refine lv_aload_n hx hb dX4_classOf_15 rfl (lv_at hl 2 rfl) ?_
        refine va_get (D := (dC, dI)) (ci := 4) (v := .ref tqA) (C := RX4) (T := TX4) (N := 18) hx hb hts hinX4 hown hK hP 0 rfl rfl 3 (by decide) (hts (.fieldLink RX4 13 "FormDeskModel" "listA" "[J") (by decide +kernel)) (fun _ h9 => h9) rfl dX4_classOf_16 ?_
        refine lv_iload hx hb dX4_classOf_19 (lv_at hl 0 rfl) ?_
        obtain ⟨hn4, h⟩ := dm_gs h
        refine va_lald hx hb hK hP 1 1 rfl rfl hn4 dX4_classOf_21 ?_
        refine lv_lload_n hx hb dX4_classOf_22 rfl (lv_at hl 3 rfl) ?_
        refine mc_lif_ne (tgt := 57) hx hb dX4_classOf_23 dX4_classOf_24 (by decide) (fun hc5 => ?_) (fun hc5 => ?_)
        · have h := dm_f hc5 h
          refine lv_iload hx hb dX4_classOf_57 (lv_at hl 1 rfl) ?_
          refine lv_istore (lv' := [(7, .int v2), (8, .int v1), (0, .ref th), (1, .long p0), (3, .long p1), (5, .long p2)]) hx hb dX4_classOf_59 hl (by decide) rfl (fun ls hl => ?_)
          obtain ⟨x6, ex6⟩ : ∃ y : Int32, y = (v1 + (1 : Int32)) := ⟨_, rfl⟩
          have h := dm_lu ex6 h
          refine lv_iinc (v := x6) (lv' := [(8, .int x6), (7, .int v2), (0, .ref th), (1, .long p0), (3, .long p1), (5, .long p2)]) hx hb dX4_classOf_61 hl (k := 1) rfl (by rw [ex6]; rfl) (by decide) rfl (fun ls hl => ?_)
          refine lv_goto (tgt := 6) hx hb dX4_classOf_64 (by decide) ?_
          exact ih6 x6 v2 H _ ls h (hP.sub [0, 1, 2, 3, 4, 5, 6] rfl) (hD.sub [0, 1, 2, 3, 4, 5, 6] (by decide) rfl) hS (lv_sub hl [0, 1, 2, 3, 4, 5] rfl)
        · have h := dm_t hc5 h
          refine lv_aload_n hx hb dX4_classOf_27 rfl (lv_at hl 2 rfl) ?_
          refine va_get (D := (dC, dI)) (ci := 4) (v := .ref tqB) (C := RX4) (T := TX4) (N := 18) hx hb hts hinX4 hown hK hP 0 rfl rfl 4 (by decide) (hts (.fieldLink RX4 17 "FormDeskModel" "listB" "[J") (by decide +kernel)) (fun _ h9 => h9) rfl dX4_classOf_28 ?_
          refine lv_iload hx hb dX4_classOf_31 (lv_at hl 0 rfl) ?_
          obtain ⟨hn7, h⟩ := dm_gs h
          refine va_lald hx hb hK hP 2 1 rfl rfl hn7 dX4_classOf_33 ?_
          refine lv_lload_n hx hb dX4_classOf_34 rfl (lv_at hl 4 rfl) ?_
          refine mc_lif_ne (tgt := 57) hx hb dX4_classOf_35 dX4_classOf_36 (by decide) (fun hc8 => ?_) (fun hc8 => ?_)
          · have h := dm_f hc8 h
            refine lv_iload hx hb dX4_classOf_57 (lv_at hl 1 rfl) ?_
            refine lv_istore (lv' := [(7, .int v2), (8, .int v1), (0, .ref th), (1, .long p0), (3, .long p1), (5, .long p2)]) hx hb dX4_classOf_59 hl (by decide) rfl (fun ls hl => ?_)
            obtain ⟨x9, ex9⟩ : ∃ y : Int32, y = (v1 + (1 : Int32)) := ⟨_, rfl⟩
            have h := dm_lu ex9 h
            refine lv_iinc (v := x9) (lv' := [(8, .int x9), (7, .int v2), (0, .ref th), (1, .long p0), (3, .long p1), (5, .long p2)]) hx hb dX4_classOf_61 hl (k := 1) rfl (by rw [ex9]; rfl) (by decide) rfl (fun ls hl => ?_)
            refine lv_goto (tgt := 6) hx hb dX4_classOf_64 (by decide) ?_
            exact ih6 x9 v2 H _ ls h (hP.sub [0, 1, 2, 3, 4, 5, 6] rfl) (hD.sub [0, 1, 2, 3, 4, 5, 6] (by decide) rfl) hS (lv_sub hl [0, 1, 2, 3, 4, 5] rfl)
          · have h := dm_t hc8 h
            refine lv_aload_n hx hb dX4_classOf_39 rfl (lv_at hl 2 rfl) ?_
            refine va_get (D := (dC, dI)) (ci := 4) (v := .ref tqC) (C := RX4) (T := TX4) (N := 18) hx hb hts hinX4 hown hK hP 0 rfl rfl 5 (by decide) (hts (.fieldLink RX4 20 "FormDeskModel" "listC" "[J") (by decide +kernel)) (fun _ h9 => h9) rfl dX4_classOf_40 ?_
            refine lv_iload hx hb dX4_classOf_43 (lv_at hl 0 rfl) ?_
            obtain ⟨hn10, h⟩ := dm_gs h
            refine va_lald hx hb hK hP 3 1 rfl rfl hn10 dX4_classOf_45 ?_
            refine lv_lload hx hb dX4_classOf_46 (lv_at hl 5 rfl) ?_
            refine mc_lif_ne (tgt := 57) hx hb dX4_classOf_48 dX4_classOf_49 (by decide) (fun hc11 => ?_) (fun hc11 => ?_)
            · have h := dm_f hc11 h
              refine lv_iload hx hb dX4_classOf_57 (lv_at hl 1 rfl) ?_
              refine lv_istore (lv' := [(7, .int v2), (8, .int v1), (0, .ref th), (1, .long p0), (3, .long p1), (5, .long p2)]) hx hb dX4_classOf_59 hl (by decide) rfl (fun ls hl => ?_)
              obtain ⟨x12, ex12⟩ : ∃ y : Int32, y = (v1 + (1 : Int32)) := ⟨_, rfl⟩
              have h := dm_lu ex12 h
              refine lv_iinc (v := x12) (lv' := [(8, .int x12), (7, .int v2), (0, .ref th), (1, .long p0), (3, .long p1), (5, .long p2)]) hx hb dX4_classOf_61 hl (k := 1) rfl (by rw [ex12]; rfl) (by decide) rfl (fun ls hl => ?_)
              refine lv_goto (tgt := 6) hx hb dX4_classOf_64 (by decide) ?_
              exact ih6 x12 v2 H _ ls h (hP.sub [0, 1, 2, 3, 4, 5, 6] rfl) (hD.sub [0, 1, 2, 3, 4, 5, 6] (by decide) rfl) hS (lv_sub hl [0, 1, 2, 3, 4, 5] rfl)
            · have h := dm_t hc11 h
              refine lv_iload hx hb dX4_classOf_52 (lv_at hl 0 rfl) ?_
              refine lv_goto (tgt := 59) hx hb dX4_classOf_54 (by decide) ?_
              refine lv_istore (lv' := [(7, .int v1), (8, .int v1), (0, .ref th), (1, .long p0), (3, .long p1), (5, .long p2)]) hx hb dX4_classOf_59 hl (by decide) rfl (fun ls hl => ?_)
              obtain ⟨x13, ex13⟩ : ∃ y : Int32, y = (v1 + (1 : Int32)) := ⟨_, rfl⟩
              have h := dm_lu ex13 h
              refine lv_iinc (v := x13) (lv' := [(8, .int x13), (7, .int v1), (0, .ref th), (1, .long p0), (3, .long p1), (5, .long p2)]) hx hb dX4_classOf_61 hl (k := 1) rfl (by rw [ex13]; rfl) (by decide) rfl (fun ls hl => ?_)
              refine lv_goto (tgt := 6) hx hb dX4_classOf_64 (by decide) ?_
              exact ih6 x13 v1 H _ ls h (hP.sub [0, 1, 2, 3, 4, 5, 6] rfl) (hD.sub [0, 1, 2, 3, 4, 5, 6] (by decide) rfl) hS (lv_sub hl [0, 1, 2, 3, 4, 5] rfl)
  exact L6 100000 (0 : Int32) (-1 : Int32) s.heap _ ls h hP hD hS hl

def f_X4_reduced (tn : Int32) (tla : Nat → Int64) (tlb : Nat → Int64) (tlc : Nat → Int64) (tsome : Int32) (tlast : Nat → Int64) (p0 : Int32) : Option (Int32 × Int32) :=
  if tsome = 0 then
    dm_b2 (f_X4_refuse (1 : Int32)) fun r2 w3 =>
    some (r2, w3)
  else
    dm_b1 (f_X4_outside p0 (0 : Int32) (8 : Int32)) fun r5 =>
    if r5 = 0 then
      if (7 : Int32) ≤ p0 then
        if p0 = (7 : Int32) then
          dm_g (¬ ((1 : Int32) < 0 ∨ 7 ≤ ((1 : Int32)).toNatClampNeg)) <|
          dm_g (¬ ((1 : Int32) < 0 ∨ 7 ≤ ((1 : Int32)).toNatClampNeg)) <|
          dm_g (¬ ((0 : Int32) < 0 ∨ 7 ≤ ((0 : Int32)).toNatClampNeg)) <|
          dm_g (¬ ((2 : Int32) < 0 ∨ 7 ≤ ((2 : Int32)).toNatClampNeg)) <|
          some (((((tlast ((1 : Int32)).toNatClampNeg) * (tlast ((1 : Int32)).toNatClampNeg)) - (((4 : Int64) * (tlast ((0 : Int32)).toNatClampNeg)) * (tlast ((2 : Int32)).toNatClampNeg)))).toInt32, (0 : Int32))
        else
          dm_g (¬ ((0 : Int32) < 0 ∨ 7 ≤ ((0 : Int32)).toNatClampNeg)) <|
          dm_g (¬ ((1 : Int32) < 0 ∨ 7 ≤ ((1 : Int32)).toNatClampNeg)) <|
          dm_g (¬ ((2 : Int32) < 0 ∨ 7 ≤ ((2 : Int32)).toNatClampNeg)) <|
          dm_b1 (f_X4_classOf tn tla tlb tlc (tlast ((0 : Int32)).toNatClampNeg) (tlast ((1 : Int32)).toNatClampNeg) (tlast ((2 : Int32)).toNatClampNeg)) fun r13 =>
          some (r13, (0 : Int32))
      else
        dm_g (¬ (p0 < 0 ∨ 7 ≤ (p0).toNatClampNeg)) <|
        some (((tlast (p0).toNatClampNeg)).toInt32, (0 : Int32))
    else
      dm_b2 (f_X4_refuse (1 : Int32)) fun r20 w21 =>
      some (r20, w21)
set_option maxHeartbeats 4000000 in
set_option maxRecDepth 100000 in
theorem c_X4_reduced (l : Launch) (dC : Nat → ClassId) (dI : Nat → Nat → Nat) (cyI cyJ cyC : ClassId) (th tqA tqB tqC tqL tqW tqO : Nat) (sz : Nat) (tthr : Int32) (tdd : Int32) (tn : Int32) (tla : Nat → Int64) (tlb : Nat → Int64) (tlc : Nat → Int64) (ta : Int64) (tb : Int64) (tc : Int64) (tp : Int64) (tq : Int64) (tr : Int64) (ts : Int64) (tsome : Int32) (tlast : Nat → Int64) (tlet : Int32) (twd : Nat → Int32) (topn : Nat → Int32) (p0 : Int32) (rv : Int32) (tthr' : Int32) (hf : f_X4_reduced tn tla tlb tlc tsome tlast p0 = some (rv, tthr')) : Met l yX4_reduced wsX4_reduced { frames := 1, cells := 0, slots := 0, locals := 28 } (va_Pc [.ref th, .int p0] (mc_Pre (dC, dI) (mc_tys cyI cyJ cyC) [(th, .inr (4, [.int tthr, .int tdd, .int tn, .ref tqA, .ref tqB, .ref tqC, .long ta, .long tb, .long tc, .long tp, .long tq, .long tr, .long ts, .int tsome, .ref tqL, .int tlet, .ref tqW, .ref tqO])), (tqA, .inl (cyJ, 40, .inr (.inl tla))), (tqB, .inl (cyJ, 40, .inr (.inl tlb))), (tqC, .inl (cyJ, 40, .inr (.inl tlc))), (tqL, .inl (cyJ, 7, .inr (.inl tlast))), (tqW, .inl (cyC, 40, .inl twd)), (tqO, .inl (cyI, 5, .inl topn))] sz)) (va_Qi (fun r (_ : Unit) => r = rv) (fun _ t => mc_Post (dC, dI) (va_A [(th, .inr (4, [.int tthr, .int tdd, .int tn, .ref tqA, .ref tqB, .ref tqC, .long ta, .long tb, .long tc, .long tp, .long tq, .long tr, .long ts, .int tsome, .ref tqL, .int tlet, .ref tqW, .ref tqO])), (tqA, .inl (cyJ, 40, .inr (.inl tla))), (tqB, .inl (cyJ, 40, .inr (.inl tlb))), (tqC, .inl (cyJ, 40, .inr (.inl tlc))), (tqL, .inl (cyJ, 7, .inr (.inl tlast))), (tqW, .inl (cyC, 40, .inl twd)), (tqO, .inl (cyI, 5, .inl topn))] sz) [(th, .inr (4, [.int tthr', .int tdd, .int tn, .ref tqA, .ref tqB, .ref tqC, .long ta, .long tb, .long tc, .long tp, .long tq, .long tr, .long ts, .int tsome, .ref tqL, .int tlet, .ref tqW, .ref tqO])), (tqA, .inl (cyJ, 40, .inr (.inl tla))), (tqB, .inl (cyJ, 40, .inr (.inl tlb))), (tqC, .inl (cyJ, 40, .inr (.inl tlc))), (tqL, .inl (cyJ, 7, .inr (.inl tlast))), (tqW, .inl (cyC, 40, .inl twd)), (tqO, .inl (cyI, 5, .inl topn))] t) (va_A [(th, .inr (4, [.int tthr, .int tdd, .int tn, .ref tqA, .ref tqB, .ref tqC, .long ta, .long tb, .long tc, .long tp, .long tq, .long tr, .long ts, .int tsome, .ref tqL, .int tlet, .ref tqW, .ref tqO])), (tqA, .inl (cyJ, 40, .inr (.inl tla))), (tqB, .inl (cyJ, 40, .inr (.inl tlb))), (tqC, .inl (cyJ, 40, .inr (.inl tlc))), (tqL, .inl (cyJ, 7, .inr (.inl tlast))), (tqW, .inl (cyC, 40, .inl twd)), (tqO, .inl (cyI, 5, .inl topn))] sz)) 0 0 (va_A [(th, .inr (4, [.int tthr, .int tdd, .int tn, .ref tqA, .ref tqB, .ref tqC, .long ta, .long tb, .long tc, .long tp, .long tq, .long tr, .long ts, .int tsome, .ref tqL, .int tlet, .ref tqW, .ref tqO])), (tqA, .inl (cyJ, 40, .inr (.inl tla))), (tqB, .inl (cyJ, 40, .inr (.inl tlb))), (tqC, .inl (cyJ, 40, .inr (.inl tlc))), (tqL, .inl (cyJ, 7, .inr (.inl tlast))), (tqW, .inl (cyC, 40, .inl twd)), (tqO, .inl (cyI, 5, .inl topn))] sz) := by
  refine Met.ofW (cc := cX4_reduced) (maxL := 2) (ret := (some .int)) (by decide +kernel) rfl ?_
  intro p e s m args below meth c s₁ B hml hv
  obtain ⟨rfl, hsz, hP, hK, hD0, hnw⟩ := hv
  have hx := B.exec
  have hb := B.bytes
  have hr := B.returns
  have hts := atoms_spec (ws := wsX4_reduced) B.pre
  have hown : s.vm.findClass RX4 = some m.cls := findClass_of_methodNamed B.named
  have hlocks := B.notSynchronized
  have hinX4 : ∀ w ∈ wsX40, w ∈ wsX4_reduced := by decide +kernel
  subst hsz
  have hD := hD0.self (sz := s.heap.size)
  generalize hAe : va_A [(th, .inr (4, [.int tthr, .int tdd, .int tn, .ref tqA, .ref tqB, .ref tqC, .long ta, .long tb, .long tc, .long tp, .long tq, .long tr, .long ts, .int tsome, .ref tqL, .int tlet, .ref tqW, .ref tqO])), (tqA, .inl (cyJ, 40, .inr (.inl tla))), (tqB, .inl (cyJ, 40, .inr (.inl tlb))), (tqC, .inl (cyJ, 40, .inr (.inl tlc))), (tqL, .inl (cyJ, 7, .inr (.inl tlast))), (tqW, .inl (cyC, 40, .inl twd)), (tqO, .inl (cyI, 5, .inl topn))] s.heap.size = A at hD ⊢
  have hA : ∀ q : Nat, s.heap.size ≤ q → A q := fun q h => by rw [← hAe]; exact Or.inr h
  have hS : va_S A s.heap s.heap [] := va_S.rf
  have hP : va_P (dC, dI) vwCl [(th, .inr (4, [.int tthr, .int tdd, .int tn, .ref tqA, .ref tqB, .ref tqC, .long ta, .long tb, .long tc, .long tp, .long tq, .long tr, .long ts, .int tsome, .ref tqL, .int tlet, .ref tqW, .ref tqO])), (tqA, .inl (cyJ, 40, .inr (.inl tla))), (tqB, .inl (cyJ, 40, .inr (.inl tlb))), (tqC, .inl (cyJ, 40, .inr (.inl tlc))), (tqL, .inl (cyJ, 7, .inr (.inl tlast))), (tqW, .inl (cyC, 40, .inl twd)), (tqO, .inl (cyI, 5, .inl topn))] s.heap := hP
  have hl := lv_entry ([.ref th, .int p0]) (n := 2) (Nat.le_of_ble_eq_true rfl)
  rw [lg_entry_eq]
  generalize (lg_sl ([.ref th, .int p0]) ++ List.replicate (2 - (lg_sl ([.ref th, .int p0])).length) Slot.unset).toArray = ls at hl ⊢
  have hl : lv_has ls 2 [(0, .ref th), (1, .int p0)] := hl
  obtain ⟨QQ, hQQ⟩ : ∃ Q, Q = MQ below (va_Qi (fun r (_ : Unit) => r = rv) (fun _ t => mc_Post (dC, dI) A [(th, .inr (4, [.int tthr', .int tdd, .int tn, .ref tqA, .ref tqB, .ref tqC, .long ta, .long tb, .long tc, .long tp, .long tq, .long tr, .long ts, .int tsome, .ref tqL, .int tlet, .ref tqW, .ref tqO])), (tqA, .inl (cyJ, 40, .inr (.inl tla))), (tqB, .inl (cyJ, 40, .inr (.inl tlb))), (tqC, .inl (cyJ, 40, .inr (.inl tlc))), (tqL, .inl (cyJ, 7, .inr (.inl tlast))), (tqW, .inl (cyC, 40, .inl twd)), (tqO, .inl (cyI, 5, .inl topn))] t) A) ([Value.ref th, Value.int p0] : List Value).toArray s 0 0 A := ⟨_, rfl⟩
  rw [← hQQ]
  have h := hf
  unfold f_X4_reduced at h
  refine lv_aload_n hx hb dX4_reduced_0 rfl (lv_at hl 0 rfl) ?_
  refine va_get (D := (dC, dI)) (ci := 4) (v := .int tsome) (C := RX4) (T := TX4) (N := 18) hx hb hts hinX4 hown hK hP 0 rfl rfl 13 (by decide) (hts (.fieldLink RX4 114 "FormDeskModel" "some" "Z") (by decide +kernel)) (fun _ h9 => h9) rfl dX4_reduced_1 ?_
  refine lv_if_eq (tgt := 17) hx hb dX4_reduced_4 (by decide) (fun hc1 => ?_) (fun hc1 => ?_)
  · have h := dm_t hc1 h
    refine lv_aload_n hx hb dX4_reduced_17 rfl (lv_at hl 0 rfl) ?_
    refine lv_iconst (v := 1) hx hb dX4_reduced_18 (by decide) ?_
    obtain ⟨r2, w3, hk4, h⟩ := dm_b2s h
    refine mc_i (wr := []) (va_runV (As := [.int (1 : Int32)]) (rest := []) ⟨hx, hb, hml, hown, hts⟩ (c_X4_refuse l dC dI cyI cyJ cyC th tqA tqB tqC tqL tqW tqO s.heap.size tthr tdd tn tla tlb tlc ta tb tc tp tq tr ts tsome tlast tlet twd topn (1 : Int32) r2 w3 hk4) (cwV 1 hts gX4_reduced_X4_refuse rfl rfl rfl (by decide +kernel) ⟨(Nat.le_of_ble_eq_true rfl), (Nat.le_of_ble_eq_true rfl)⟩) (mc_preV hK (hP.sub (ws' := [(th, .inr (4, [.int tthr, .int tdd, .int tn, .ref tqA, .ref tqB, .ref tqC, .long ta, .long tb, .long tc, .long tp, .long tq, .long tr, .long ts, .int tsome, .ref tqL, .int tlet, .ref tqW, .ref tqO])), (tqA, .inl (cyJ, 40, .inr (.inl tla))), (tqB, .inl (cyJ, 40, .inr (.inl tlb))), (tqC, .inl (cyJ, 40, .inr (.inl tlc))), (tqL, .inl (cyJ, 7, .inr (.inl tlast))), (tqW, .inl (cyC, 40, .inl twd)), (tqO, .inl (cyI, 5, .inl topn))]) [0, 1, 2, 3, 4, 5, 6] rfl) (hD.sub (ws' := [(th, .inr (4, [.int tthr, .int tdd, .int tn, .ref tqA, .ref tqB, .ref tqC, .long ta, .long tb, .long tc, .long tp, .long tq, .long tr, .long ts, .int tsome, .ref tqL, .int tlet, .ref tqW, .ref tqO])), (tqA, .inl (cyJ, 40, .inr (.inl tla))), (tqB, .inl (cyJ, 40, .inr (.inl tlb))), (tqC, .inl (cyJ, 40, .inr (.inl tlc))), (tqL, .inl (cyJ, 7, .inr (.inl tlast))), (tqW, .inl (cyC, 40, .inl twd)), (tqO, .inl (cyI, 5, .inl topn))]) [0, 1, 2, 3, 4, 5, 6] (by decide) rfl) hnw rfl rfl) rfl rfl hl.1 rfl (lv_room (Nat.le_of_ble_eq_true rfl)) dX4_reduced_19 ⟨Nat.zero_le _, Nat.zero_le _⟩) hP hD hS hA [0, 1, 2, 3, 4, 5, 6] [] rfl rfl rfl (by decide) (fun H locs hP hD hS => ?_)
    have hP : va_P (dC, dI) vwCl [(th, .inr (4, [.int w3, .int tdd, .int tn, .ref tqA, .ref tqB, .ref tqC, .long ta, .long tb, .long tc, .long tp, .long tq, .long tr, .long ts, .int tsome, .ref tqL, .int tlet, .ref tqW, .ref tqO])), (tqA, .inl (cyJ, 40, .inr (.inl tla))), (tqB, .inl (cyJ, 40, .inr (.inl tlb))), (tqC, .inl (cyJ, 40, .inr (.inl tlc))), (tqL, .inl (cyJ, 7, .inr (.inl tlast))), (tqW, .inl (cyC, 40, .inl twd)), (tqO, .inl (cyI, 5, .inl topn))] H := hP
    have hD : va_D A [(th, .inr (4, [.int w3, .int tdd, .int tn, .ref tqA, .ref tqB, .ref tqC, .long ta, .long tb, .long tc, .long tp, .long tq, .long tr, .long ts, .int tsome, .ref tqL, .int tlet, .ref tqW, .ref tqO])), (tqA, .inl (cyJ, 40, .inr (.inl tla))), (tqB, .inl (cyJ, 40, .inr (.inl tlb))), (tqC, .inl (cyJ, 40, .inr (.inl tlc))), (tqL, .inl (cyJ, 7, .inr (.inl tlast))), (tqW, .inl (cyC, 40, .inl twd)), (tqO, .inl (cyI, 5, .inl topn))] := hD
    obtain ⟨hE0, hE1⟩ := dm_i2 h
    subst hE0; subst hE1
    rw [hQQ]
    have hP9 := hP.sub (ws' := [(th, .inr (4, [.int w3, .int tdd, .int tn, .ref tqA, .ref tqB, .ref tqC, .long ta, .long tb, .long tc, .long tp, .long tq, .long tr, .long ts, .int tsome, .ref tqL, .int tlet, .ref tqW, .ref tqO])), (tqA, .inl (cyJ, 40, .inr (.inl tla))), (tqB, .inl (cyJ, 40, .inr (.inl tlb))), (tqC, .inl (cyJ, 40, .inr (.inl tlc))), (tqL, .inl (cyJ, 7, .inr (.inl tlast))), (tqW, .inl (cyC, 40, .inl twd)), (tqO, .inl (cyI, 5, .inl topn))]) [0, 1, 2, 3, 4, 5, 6] rfl
    have hD9 := hD.sub (ws' := [(th, .inr (4, [.int w3, .int tdd, .int tn, .ref tqA, .ref tqB, .ref tqC, .long ta, .long tb, .long tc, .long tp, .long tq, .long tr, .long ts, .int tsome, .ref tqL, .int tlet, .ref tqW, .ref tqO])), (tqA, .inl (cyJ, 40, .inr (.inl tla))), (tqB, .inl (cyJ, 40, .inr (.inl tlb))), (tqC, .inl (cyJ, 40, .inr (.inl tlc))), (tqL, .inl (cyJ, 7, .inr (.inl tlast))), (tqW, .inl (cyC, 40, .inl twd)), (tqO, .inl (cyI, 5, .inl topn))]) [0, 1, 2, 3, 4, 5, 6] (by decide) rfl
    exact W.iret (v := r2) hx hb hr (fun t ht hW => ⟨⟨r2, (), rfl, rfl, by rw [ht]; exact hP9, hD9⟩, hS.F ht⟩) hS.2.2 dX4_reduced_22
  · have h := dm_f hc1 h
    refine lv_iload_n hx hb dX4_reduced_7 rfl (lv_at hl 1 rfl) ?_
    refine lv_iconst (v := 0) hx hb dX4_reduced_8 (by decide) ?_
    refine lv_bipush (v := 8) hx hb dX4_reduced_9 (by decide) ?_
    obtain ⟨r5, hk6, h⟩ := dm_b1s h
    refine mc_i (wr := [(th, .inr (4, [.int tthr, .int tdd, .int tn, .ref tqA, .ref tqB, .ref tqC, .long ta, .long tb, .long tc, .long tp, .long tq, .long tr, .long ts, .int tsome, .ref tqL, .int tlet, .ref tqW, .ref tqO])), (tqA, .inl (cyJ, 40, .inr (.inl tla))), (tqB, .inl (cyJ, 40, .inr (.inl tlb))), (tqC, .inl (cyJ, 40, .inr (.inl tlc))), (tqL, .inl (cyJ, 7, .inr (.inl tlast))), (tqW, .inl (cyC, 40, .inl twd)), (tqO, .inl (cyI, 5, .inl topn))]) (va_runS (As := [.int p0, .int (0 : Int32), .int (8 : Int32)]) (rest := []) ⟨hx, hb, hml, hown, hts⟩ (c_X4_outside l dC dI cyI cyJ cyC s.heap.size p0 (0 : Int32) (8 : Int32) r5 hk6) (va_cwS 3 hts gX4_reduced_X4_outside rfl rfl rfl (by decide +kernel) ⟨(Nat.le_of_ble_eq_true rfl), (Nat.le_of_ble_eq_true rfl)⟩) (mc_preS hK (hP.sub (ws' := []) [] rfl) (hD.sub (ws' := []) [] (by decide) rfl) hnw) rfl rfl hl.1 rfl (lv_room (Nat.le_of_ble_eq_true rfl)) dX4_reduced_11 ⟨Nat.zero_le _, Nat.zero_le _⟩) hP hD hS hA [] [0, 1, 2, 3, 4, 5, 6] rfl rfl rfl (by decide) (fun H locs hP hD hS => ?_)
    have hP : va_P (dC, dI) vwCl [(th, .inr (4, [.int tthr, .int tdd, .int tn, .ref tqA, .ref tqB, .ref tqC, .long ta, .long tb, .long tc, .long tp, .long tq, .long tr, .long ts, .int tsome, .ref tqL, .int tlet, .ref tqW, .ref tqO])), (tqA, .inl (cyJ, 40, .inr (.inl tla))), (tqB, .inl (cyJ, 40, .inr (.inl tlb))), (tqC, .inl (cyJ, 40, .inr (.inl tlc))), (tqL, .inl (cyJ, 7, .inr (.inl tlast))), (tqW, .inl (cyC, 40, .inl twd)), (tqO, .inl (cyI, 5, .inl topn))] H := hP
    have hD : va_D A [(th, .inr (4, [.int tthr, .int tdd, .int tn, .ref tqA, .ref tqB, .ref tqC, .long ta, .long tb, .long tc, .long tp, .long tq, .long tr, .long ts, .int tsome, .ref tqL, .int tlet, .ref tqW, .ref tqO])), (tqA, .inl (cyJ, 40, .inr (.inl tla))), (tqB, .inl (cyJ, 40, .inr (.inl tlb))), (tqC, .inl (cyJ, 40, .inr (.inl tlc))), (tqL, .inl (cyJ, 7, .inr (.inl tlast))), (tqW, .inl (cyC, 40, .inl twd)), (tqO, .inl (cyI, 5, .inl topn))] := hD
    refine lv_if_eq (tgt := 23) hx hb dX4_reduced_14 (by decide) (fun hc7 => ?_) (fun hc7 => ?_)
    · have h := dm_t hc7 h
      refine lv_aload_n hx hb dX4_reduced_23 rfl (lv_at hl 0 rfl) ?_
      refine lv_iconst (v := 0) hx hb dX4_reduced_24 (by decide) ?_
      refine va_put (D := (dC, dI)) (ci := 4) (v := .int (0 : Int32)) (ty := .int) (C := RX4) (T := TX4) (N := 18) hx hb hts hinX4 tyX4 tyX4_ok nmX4 hown hK hP hD hS 0 rfl rfl 0 (by decide) (hts (.fieldLink RX4 38 "FormDeskModel" "thrown" "I") (by decide +kernel)) (fun _ h9 => h9) rfl (by decide +kernel) rfl rfl (Nat.le_of_ble_eq_true rfl) dX4_reduced_25 (fun H locs hP hD hS => ?_)
      have hP : va_P (dC, dI) vwCl [(th, .inr (4, [.int (0 : Int32), .int tdd, .int tn, .ref tqA, .ref tqB, .ref tqC, .long ta, .long tb, .long tc, .long tp, .long tq, .long tr, .long ts, .int tsome, .ref tqL, .int tlet, .ref tqW, .ref tqO])), (tqA, .inl (cyJ, 40, .inr (.inl tla))), (tqB, .inl (cyJ, 40, .inr (.inl tlb))), (tqC, .inl (cyJ, 40, .inr (.inl tlc))), (tqL, .inl (cyJ, 7, .inr (.inl tlast))), (tqW, .inl (cyC, 40, .inl twd)), (tqO, .inl (cyI, 5, .inl topn))] H := hP
      have hD : va_D A [(th, .inr (4, [.int (0 : Int32), .int tdd, .int tn, .ref tqA, .ref tqB, .ref tqC, .long ta, .long tb, .long tc, .long tp, .long tq, .long tr, .long ts, .int tsome, .ref tqL, .int tlet, .ref tqW, .ref tqO])), (tqA, .inl (cyJ, 40, .inr (.inl tla))), (tqB, .inl (cyJ, 40, .inr (.inl tlb))), (tqC, .inl (cyJ, 40, .inr (.inl tlc))), (tqL, .inl (cyJ, 7, .inr (.inl tlast))), (tqW, .inl (cyC, 40, .inl twd)), (tqO, .inl (cyI, 5, .inl topn))] := hD
      refine lv_iload_n hx hb dX4_reduced_28 rfl (lv_at hl 1 rfl) ?_
      refine lv_bipush (v := 7) hx hb dX4_reduced_29 (by decide) ?_
      refine lv_icmp_ge (tgt := 42) hx hb dX4_reduced_31 (by decide) (fun hc8 => ?_) (fun hc8 => ?_)
      · have h := dm_t hc8 h
        refine lv_iload_n hx hb dX4_reduced_42 rfl (lv_at hl 1 rfl) ?_
        refine lv_bipush (v := 7) hx hb dX4_reduced_43 (by decide) ?_
        refine lv_icmp_ne (tgt := 83) hx hb dX4_reduced_45 (by decide) (fun hc9 => ?_) (fun hc9 => ?_)
        · have h := dm_f hc9 h
          refine lv_aload_n hx hb dX4_reduced_83 rfl (lv_at hl 0 rfl) ?_
          refine lv_aload_n hx hb dX4_reduced_84 rfl (lv_at hl 0 rfl) ?_
          refine va_get (D := (dC, dI)) (ci := 4) (v := .ref tqL) (C := RX4) (T := TX4) (N := 18) hx hb hts hinX4 hown hK hP 0 rfl rfl 14 (by decide) (hts (.fieldLink RX4 23 "FormDeskModel" "last" "[J") (by decide +kernel)) (fun _ h9 => h9) rfl dX4_reduced_85 ?_
          refine lv_iconst (v := 0) hx hb dX4_reduced_88 (by decide) ?_
          obtain ⟨hn10, h⟩ := dm_gs h
          refine va_lald hx hb hK hP 4 1 rfl rfl hn10 dX4_reduced_89 ?_
          refine lv_aload_n hx hb dX4_reduced_90 rfl (lv_at hl 0 rfl) ?_
          refine va_get (D := (dC, dI)) (ci := 4) (v := .ref tqL) (C := RX4) (T := TX4) (N := 18) hx hb hts hinX4 hown hK hP 0 rfl rfl 14 (by decide) (hts (.fieldLink RX4 23 "FormDeskModel" "last" "[J") (by decide +kernel)) (fun _ h9 => h9) rfl dX4_reduced_91 ?_
          refine lv_iconst (v := 1) hx hb dX4_reduced_94 (by decide) ?_
          obtain ⟨hn11, h⟩ := dm_gs h
          refine va_lald hx hb hK hP 4 1 rfl rfl hn11 dX4_reduced_95 ?_
          refine lv_aload_n hx hb dX4_reduced_96 rfl (lv_at hl 0 rfl) ?_
          refine va_get (D := (dC, dI)) (ci := 4) (v := .ref tqL) (C := RX4) (T := TX4) (N := 18) hx hb hts hinX4 hown hK hP 0 rfl rfl 14 (by decide) (hts (.fieldLink RX4 23 "FormDeskModel" "last" "[J") (by decide +kernel)) (fun _ h9 => h9) rfl dX4_reduced_97 ?_
          refine lv_iconst (v := 2) hx hb dX4_reduced_100 (by decide) ?_
          obtain ⟨hn12, h⟩ := dm_gs h
          refine va_lald hx hb hK hP 4 1 rfl rfl hn12 dX4_reduced_101 ?_
          obtain ⟨r13, hk14, h⟩ := dm_b1s h
          refine mc_i (wr := []) (va_runV (As := [.long (tlast ((0 : Int32)).toNatClampNeg), .long (tlast ((1 : Int32)).toNatClampNeg), .long (tlast ((2 : Int32)).toNatClampNeg)]) (rest := []) ⟨hx, hb, hml, hown, hts⟩ (c_X4_classOf l dC dI cyI cyJ cyC th tqA tqB tqC tqL tqW tqO H.size (0 : Int32) tdd tn tla tlb tlc ta tb tc tp tq tr ts tsome tlast tlet twd topn (tlast ((0 : Int32)).toNatClampNeg) (tlast ((1 : Int32)).toNatClampNeg) (tlast ((2 : Int32)).toNatClampNeg) r13 hk14) (cwV 3 hts gX4_reduced_X4_classOf rfl rfl rfl (by decide +kernel) ⟨(Nat.le_of_ble_eq_true rfl), (Nat.le_of_ble_eq_true rfl)⟩) (mc_preV hK (hP.sub (ws' := [(th, .inr (4, [.int (0 : Int32), .int tdd, .int tn, .ref tqA, .ref tqB, .ref tqC, .long ta, .long tb, .long tc, .long tp, .long tq, .long tr, .long ts, .int tsome, .ref tqL, .int tlet, .ref tqW, .ref tqO])), (tqA, .inl (cyJ, 40, .inr (.inl tla))), (tqB, .inl (cyJ, 40, .inr (.inl tlb))), (tqC, .inl (cyJ, 40, .inr (.inl tlc))), (tqL, .inl (cyJ, 7, .inr (.inl tlast))), (tqW, .inl (cyC, 40, .inl twd)), (tqO, .inl (cyI, 5, .inl topn))]) [0, 1, 2, 3, 4, 5, 6] rfl) (hD.sub (ws' := [(th, .inr (4, [.int (0 : Int32), .int tdd, .int tn, .ref tqA, .ref tqB, .ref tqC, .long ta, .long tb, .long tc, .long tp, .long tq, .long tr, .long ts, .int tsome, .ref tqL, .int tlet, .ref tqW, .ref tqO])), (tqA, .inl (cyJ, 40, .inr (.inl tla))), (tqB, .inl (cyJ, 40, .inr (.inl tlb))), (tqC, .inl (cyJ, 40, .inr (.inl tlc))), (tqL, .inl (cyJ, 7, .inr (.inl tlast))), (tqW, .inl (cyC, 40, .inl twd)), (tqO, .inl (cyI, 5, .inl topn))]) [0, 1, 2, 3, 4, 5, 6] (by decide) rfl) hnw rfl rfl) rfl rfl hl.1 rfl (lv_room (Nat.le_of_ble_eq_true rfl)) dX4_reduced_102 ⟨Nat.zero_le _, Nat.zero_le _⟩) hP hD hS hA [0, 1, 2, 3, 4, 5, 6] [] rfl rfl rfl (by decide) (fun H locs hP hD hS => ?_)
          have hP : va_P (dC, dI) vwCl [(th, .inr (4, [.int (0 : Int32), .int tdd, .int tn, .ref tqA, .ref tqB, .ref tqC, .long ta, .long tb, .long tc, .long tp, .long tq, .long tr, .long ts, .int tsome, .ref tqL, .int tlet, .ref tqW, .ref tqO])), (tqA, .inl (cyJ, 40, .inr (.inl tla))), (tqB, .inl (cyJ, 40, .inr (.inl tlb))), (tqC, .inl (cyJ, 40, .inr (.inl tlc))), (tqL, .inl (cyJ, 7, .inr (.inl tlast))), (tqW, .inl (cyC, 40, .inl twd)), (tqO, .inl (cyI, 5, .inl topn))] H := hP
          have hD : va_D A [(th, .inr (4, [.int (0 : Int32), .int tdd, .int tn, .ref tqA, .ref tqB, .ref tqC, .long ta, .long tb, .long tc, .long tp, .long tq, .long tr, .long ts, .int tsome, .ref tqL, .int tlet, .ref tqW, .ref tqO])), (tqA, .inl (cyJ, 40, .inr (.inl tla))), (tqB, .inl (cyJ, 40, .inr (.inl tlb))), (tqC, .inl (cyJ, 40, .inr (.inl tlc))), (tqL, .inl (cyJ, 7, .inr (.inl tlast))), (tqW, .inl (cyC, 40, .inl twd)), (tqO, .inl (cyI, 5, .inl topn))] := hD
          obtain ⟨hE0, hE1⟩ := dm_i2 h
          subst hE0; subst hE1
          rw [hQQ]
          have hP9 := hP.sub (ws' := [(th, .inr (4, [.int (0 : Int32), .int tdd, .int tn, .ref tqA, .ref tqB, .ref tqC, .long ta, .long tb, .long tc, .long tp, .long tq, .long tr, .long ts, .int tsome, .ref tqL, .int tlet, .ref tqW, .ref tqO])), (tqA, .inl (cyJ, 40, .inr (.inl tla))), (tqB, .inl (cyJ, 40, .inr (.inl tlb))), (tqC, .inl (cyJ, 40, .inr (.inl tlc))), (tqL, .inl (cyJ, 7, .inr (.inl tlast))), (tqW, .inl (cyC, 40, .inl twd)), (tqO, .inl (cyI, 5, .inl topn))]) [0, 1, 2, 3, 4, 5, 6] rfl
          have hD9 := hD.sub (ws' := [(th, .inr (4, [.int (0 : Int32), .int tdd, .int tn, .ref tqA, .ref tqB, .ref tqC, .long ta, .long tb, .long tc, .long tp, .long tq, .long tr, .long ts, .int tsome, .ref tqL, .int tlet, .ref tqW, .ref tqO])), (tqA, .inl (cyJ, 40, .inr (.inl tla))), (tqB, .inl (cyJ, 40, .inr (.inl tlb))), (tqC, .inl (cyJ, 40, .inr (.inl tlc))), (tqL, .inl (cyJ, 7, .inr (.inl tlast))), (tqW, .inl (cyC, 40, .inl twd)), (tqO, .inl (cyI, 5, .inl topn))]) [0, 1, 2, 3, 4, 5, 6] (by decide) rfl
          exact W.iret (v := r13) hx hb hr (fun t ht hW => ⟨⟨r13, (), rfl, rfl, by rw [ht]; exact hP9, hD9⟩, hS.F ht⟩) hS.2.2 dX4_reduced_105
        · have h := dm_t hc9 h
          refine lv_aload_n hx hb dX4_reduced_48 rfl (lv_at hl 0 rfl) ?_
          refine va_get (D := (dC, dI)) (ci := 4) (v := .ref tqL) (C := RX4) (T := TX4) (N := 18) hx hb hts hinX4 hown hK hP 0 rfl rfl 14 (by decide) (hts (.fieldLink RX4 23 "FormDeskModel" "last" "[J") (by decide +kernel)) (fun _ h9 => h9) rfl dX4_reduced_49 ?_
          refine lv_iconst (v := 1) hx hb dX4_reduced_52 (by decide) ?_
          obtain ⟨hn15, h⟩ := dm_gs h
          refine va_lald hx hb hK hP 4 1 rfl rfl hn15 dX4_reduced_53 ?_
          refine lv_aload_n hx hb dX4_reduced_54 rfl (lv_at hl 0 rfl) ?_
          refine va_get (D := (dC, dI)) (ci := 4) (v := .ref tqL) (C := RX4) (T := TX4) (N := 18) hx hb hts hinX4 hown hK hP 0 rfl rfl 14 (by decide) (hts (.fieldLink RX4 23 "FormDeskModel" "last" "[J") (by decide +kernel)) (fun _ h9 => h9) rfl dX4_reduced_55 ?_
          refine lv_iconst (v := 1) hx hb dX4_reduced_58 (by decide) ?_
          obtain ⟨hn16, h⟩ := dm_gs h
          refine va_lald hx hb hK hP 4 1 rfl rfl hn16 dX4_reduced_59 ?_
          refine lv_lmul hx hb dX4_reduced_60 ?_
          refine lv_ldc2 (v := 4) hx hb hown (hts (.constantLong RX4 104 (4)) (by decide +kernel)) dX4_reduced_61 ?_
          refine lv_aload_n hx hb dX4_reduced_64 rfl (lv_at hl 0 rfl) ?_
          refine va_get (D := (dC, dI)) (ci := 4) (v := .ref tqL) (C := RX4) (T := TX4) (N := 18) hx hb hts hinX4 hown hK hP 0 rfl rfl 14 (by decide) (hts (.fieldLink RX4 23 "FormDeskModel" "last" "[J") (by decide +kernel)) (fun _ h9 => h9) rfl dX4_reduced_65 ?_
          refine lv_iconst (v := 0) hx hb dX4_reduced_68 (by decide) ?_
          obtain ⟨hn17, h⟩ := dm_gs h
          refine va_lald hx hb hK hP 4 1 rfl rfl hn17 dX4_reduced_69 ?_
          refine lv_lmul hx hb dX4_reduced_70 ?_
          refine lv_aload_n hx hb dX4_reduced_71 rfl (lv_at hl 0 rfl) ?_
          refine va_get (D := (dC, dI)) (ci := 4) (v := .ref tqL) (C := RX4) (T := TX4) (N := 18) hx hb hts hinX4 hown hK hP 0 rfl rfl 14 (by decide) (hts (.fieldLink RX4 23 "FormDeskModel" "last" "[J") (by decide +kernel)) (fun _ h9 => h9) rfl dX4_reduced_72 ?_
          refine lv_iconst (v := 2) hx hb dX4_reduced_75 (by decide) ?_
          obtain ⟨hn18, h⟩ := dm_gs h
          refine va_lald hx hb hK hP 4 1 rfl rfl hn18 dX4_reduced_76 ?_
          refine lv_lmul hx hb dX4_reduced_77 ?_
          refine lv_lsub hx hb dX4_reduced_78 ?_
          refine lv_l2i (v := ((((tlast ((1 : Int32)).toNatClampNeg) * (tlast ((1 : Int32)).toNatClampNeg)) - (((4 : Int64) * (tlast ((0 : Int32)).toNatClampNeg)) * (tlast ((2 : Int32)).toNatClampNeg)))).toInt32) hx hb dX4_reduced_79 rfl ?_
          refine lv_goto (tgt := 105) hx hb dX4_reduced_80 (by decide) ?_
          obtain ⟨hE0, hE1⟩ := dm_i2 h
          subst hE0; subst hE1
          rw [hQQ]
          have hP9 := hP.sub (ws' := [(th, .inr (4, [.int (0 : Int32), .int tdd, .int tn, .ref tqA, .ref tqB, .ref tqC, .long ta, .long tb, .long tc, .long tp, .long tq, .long tr, .long ts, .int tsome, .ref tqL, .int tlet, .ref tqW, .ref tqO])), (tqA, .inl (cyJ, 40, .inr (.inl tla))), (tqB, .inl (cyJ, 40, .inr (.inl tlb))), (tqC, .inl (cyJ, 40, .inr (.inl tlc))), (tqL, .inl (cyJ, 7, .inr (.inl tlast))), (tqW, .inl (cyC, 40, .inl twd)), (tqO, .inl (cyI, 5, .inl topn))]) [0, 1, 2, 3, 4, 5, 6] rfl
          have hD9 := hD.sub (ws' := [(th, .inr (4, [.int (0 : Int32), .int tdd, .int tn, .ref tqA, .ref tqB, .ref tqC, .long ta, .long tb, .long tc, .long tp, .long tq, .long tr, .long ts, .int tsome, .ref tqL, .int tlet, .ref tqW, .ref tqO])), (tqA, .inl (cyJ, 40, .inr (.inl tla))), (tqB, .inl (cyJ, 40, .inr (.inl tlb))), (tqC, .inl (cyJ, 40, .inr (.inl tlc))), (tqL, .inl (cyJ, 7, .inr (.inl tlast))), (tqW, .inl (cyC, 40, .inl twd)), (tqO, .inl (cyI, 5, .inl topn))]) [0, 1, 2, 3, 4, 5, 6] (by decide) rfl
          exact W.iret (v := ((((tlast ((1 : Int32)).toNatClampNeg) * (tlast ((1 : Int32)).toNatClampNeg)) - (((4 : Int64) * (tlast ((0 : Int32)).toNatClampNeg)) * (tlast ((2 : Int32)).toNatClampNeg)))).toInt32) hx hb hr (fun t ht hW => ⟨⟨((((tlast ((1 : Int32)).toNatClampNeg) * (tlast ((1 : Int32)).toNatClampNeg)) - (((4 : Int64) * (tlast ((0 : Int32)).toNatClampNeg)) * (tlast ((2 : Int32)).toNatClampNeg)))).toInt32, (), rfl, rfl, by rw [ht]; exact hP9, hD9⟩, hS.F ht⟩) hS.2.2 dX4_reduced_105
      · have h := dm_f hc8 h
        refine lv_aload_n hx hb dX4_reduced_34 rfl (lv_at hl 0 rfl) ?_
        refine va_get (D := (dC, dI)) (ci := 4) (v := .ref tqL) (C := RX4) (T := TX4) (N := 18) hx hb hts hinX4 hown hK hP 0 rfl rfl 14 (by decide) (hts (.fieldLink RX4 23 "FormDeskModel" "last" "[J") (by decide +kernel)) (fun _ h9 => h9) rfl dX4_reduced_35 ?_
        refine lv_iload_n hx hb dX4_reduced_38 rfl (lv_at hl 1 rfl) ?_
        obtain ⟨hn19, h⟩ := dm_gs h
        refine va_lald hx hb hK hP 4 1 rfl rfl hn19 dX4_reduced_39 ?_
        refine lv_l2i (v := ((tlast (p0).toNatClampNeg)).toInt32) hx hb dX4_reduced_40 rfl ?_
        obtain ⟨hE0, hE1⟩ := dm_i2 h
        subst hE0; subst hE1
        rw [hQQ]
        have hP9 := hP.sub (ws' := [(th, .inr (4, [.int (0 : Int32), .int tdd, .int tn, .ref tqA, .ref tqB, .ref tqC, .long ta, .long tb, .long tc, .long tp, .long tq, .long tr, .long ts, .int tsome, .ref tqL, .int tlet, .ref tqW, .ref tqO])), (tqA, .inl (cyJ, 40, .inr (.inl tla))), (tqB, .inl (cyJ, 40, .inr (.inl tlb))), (tqC, .inl (cyJ, 40, .inr (.inl tlc))), (tqL, .inl (cyJ, 7, .inr (.inl tlast))), (tqW, .inl (cyC, 40, .inl twd)), (tqO, .inl (cyI, 5, .inl topn))]) [0, 1, 2, 3, 4, 5, 6] rfl
        have hD9 := hD.sub (ws' := [(th, .inr (4, [.int (0 : Int32), .int tdd, .int tn, .ref tqA, .ref tqB, .ref tqC, .long ta, .long tb, .long tc, .long tp, .long tq, .long tr, .long ts, .int tsome, .ref tqL, .int tlet, .ref tqW, .ref tqO])), (tqA, .inl (cyJ, 40, .inr (.inl tla))), (tqB, .inl (cyJ, 40, .inr (.inl tlb))), (tqC, .inl (cyJ, 40, .inr (.inl tlc))), (tqL, .inl (cyJ, 7, .inr (.inl tlast))), (tqW, .inl (cyC, 40, .inl twd)), (tqO, .inl (cyI, 5, .inl topn))]) [0, 1, 2, 3, 4, 5, 6] (by decide) rfl
        exact W.iret (v := ((tlast (p0).toNatClampNeg)).toInt32) hx hb hr (fun t ht hW => ⟨⟨((tlast (p0).toNatClampNeg)).toInt32, (), rfl, rfl, by rw [ht]; exact hP9, hD9⟩, hS.F ht⟩) hS.2.2 dX4_reduced_41
    · have h := dm_f hc7 h
      refine lv_aload_n hx hb dX4_reduced_17 rfl (lv_at hl 0 rfl) ?_
      refine lv_iconst (v := 1) hx hb dX4_reduced_18 (by decide) ?_
      obtain ⟨r20, w21, hk22, h⟩ := dm_b2s h
      refine mc_i (wr := []) (va_runV (As := [.int (1 : Int32)]) (rest := []) ⟨hx, hb, hml, hown, hts⟩ (c_X4_refuse l dC dI cyI cyJ cyC th tqA tqB tqC tqL tqW tqO H.size tthr tdd tn tla tlb tlc ta tb tc tp tq tr ts tsome tlast tlet twd topn (1 : Int32) r20 w21 hk22) (cwV 1 hts gX4_reduced_X4_refuse rfl rfl rfl (by decide +kernel) ⟨(Nat.le_of_ble_eq_true rfl), (Nat.le_of_ble_eq_true rfl)⟩) (mc_preV hK (hP.sub (ws' := [(th, .inr (4, [.int tthr, .int tdd, .int tn, .ref tqA, .ref tqB, .ref tqC, .long ta, .long tb, .long tc, .long tp, .long tq, .long tr, .long ts, .int tsome, .ref tqL, .int tlet, .ref tqW, .ref tqO])), (tqA, .inl (cyJ, 40, .inr (.inl tla))), (tqB, .inl (cyJ, 40, .inr (.inl tlb))), (tqC, .inl (cyJ, 40, .inr (.inl tlc))), (tqL, .inl (cyJ, 7, .inr (.inl tlast))), (tqW, .inl (cyC, 40, .inl twd)), (tqO, .inl (cyI, 5, .inl topn))]) [0, 1, 2, 3, 4, 5, 6] rfl) (hD.sub (ws' := [(th, .inr (4, [.int tthr, .int tdd, .int tn, .ref tqA, .ref tqB, .ref tqC, .long ta, .long tb, .long tc, .long tp, .long tq, .long tr, .long ts, .int tsome, .ref tqL, .int tlet, .ref tqW, .ref tqO])), (tqA, .inl (cyJ, 40, .inr (.inl tla))), (tqB, .inl (cyJ, 40, .inr (.inl tlb))), (tqC, .inl (cyJ, 40, .inr (.inl tlc))), (tqL, .inl (cyJ, 7, .inr (.inl tlast))), (tqW, .inl (cyC, 40, .inl twd)), (tqO, .inl (cyI, 5, .inl topn))]) [0, 1, 2, 3, 4, 5, 6] (by decide) rfl) hnw rfl rfl) rfl rfl hl.1 rfl (lv_room (Nat.le_of_ble_eq_true rfl)) dX4_reduced_19 ⟨Nat.zero_le _, Nat.zero_le _⟩) hP hD hS hA [0, 1, 2, 3, 4, 5, 6] [] rfl rfl rfl (by decide) (fun H locs hP hD hS => ?_)
      have hP : va_P (dC, dI) vwCl [(th, .inr (4, [.int w21, .int tdd, .int tn, .ref tqA, .ref tqB, .ref tqC, .long ta, .long tb, .long tc, .long tp, .long tq, .long tr, .long ts, .int tsome, .ref tqL, .int tlet, .ref tqW, .ref tqO])), (tqA, .inl (cyJ, 40, .inr (.inl tla))), (tqB, .inl (cyJ, 40, .inr (.inl tlb))), (tqC, .inl (cyJ, 40, .inr (.inl tlc))), (tqL, .inl (cyJ, 7, .inr (.inl tlast))), (tqW, .inl (cyC, 40, .inl twd)), (tqO, .inl (cyI, 5, .inl topn))] H := hP
      have hD : va_D A [(th, .inr (4, [.int w21, .int tdd, .int tn, .ref tqA, .ref tqB, .ref tqC, .long ta, .long tb, .long tc, .long tp, .long tq, .long tr, .long ts, .int tsome, .ref tqL, .int tlet, .ref tqW, .ref tqO])), (tqA, .inl (cyJ, 40, .inr (.inl tla))), (tqB, .inl (cyJ, 40, .inr (.inl tlb))), (tqC, .inl (cyJ, 40, .inr (.inl tlc))), (tqL, .inl (cyJ, 7, .inr (.inl tlast))), (tqW, .inl (cyC, 40, .inl twd)), (tqO, .inl (cyI, 5, .inl topn))] := hD
      obtain ⟨hE0, hE1⟩ := dm_i2 h
      subst hE0; subst hE1
      rw [hQQ]
      have hP9 := hP.sub (ws' := [(th, .inr (4, [.int w21, .int tdd, .int tn, .ref tqA, .ref tqB, .ref tqC, .long ta, .long tb, .long tc, .long tp, .long tq, .long tr, .long ts, .int tsome, .ref tqL, .int tlet, .ref tqW, .ref tqO])), (tqA, .inl (cyJ, 40, .inr (.inl tla))), (tqB, .inl (cyJ, 40, .inr (.inl tlb))), (tqC, .inl (cyJ, 40, .inr (.inl tlc))), (tqL, .inl (cyJ, 7, .inr (.inl tlast))), (tqW, .inl (cyC, 40, .inl twd)), (tqO, .inl (cyI, 5, .inl topn))]) [0, 1, 2, 3, 4, 5, 6] rfl
      have hD9 := hD.sub (ws' := [(th, .inr (4, [.int w21, .int tdd, .int tn, .ref tqA, .ref tqB, .ref tqC, .long ta, .long tb, .long tc, .long tp, .long tq, .long tr, .long ts, .int tsome, .ref tqL, .int tlet, .ref tqW, .ref tqO])), (tqA, .inl (cyJ, 40, .inr (.inl tla))), (tqB, .inl (cyJ, 40, .inr (.inl tlb))), (tqC, .inl (cyJ, 40, .inr (.inl tlc))), (tqL, .inl (cyJ, 7, .inr (.inl tlast))), (tqW, .inl (cyC, 40, .inl twd)), (tqO, .inl (cyI, 5, .inl topn))]) [0, 1, 2, 3, 4, 5, 6] (by decide) rfl
      exact W.iret (v := r20) hx hb hr (fun t ht hW => ⟨⟨r20, (), rfl, rfl, by rw [ht]; exact hP9, hD9⟩, hS.F ht⟩) hS.2.2 dX4_reduced_22

def f_X4_complete_L5 (ta : Int64) (tb : Int64) (tc : Int64) (tp : Int64) (tq : Int64) (tr : Int64) (ts : Int64) (p0 : Int64) (p1 : Int64)  : Nat → Int64 → Option (Int64 × Int64 × Int64 × Int64 × Int64 × Int64 × Int64)
  | 0, _ => none
  | n + 1, v1 =>
    if (101 : Int64) < v1 then
      some (ta, tb, tc, tp, tq, tr, ts)
    else
      if p1 = (0 : Int64) then
        if (p0 * v1) = (1 : Int64) then
          if (1 : Int32) = 0 then
            dm_let (v1 + (1 : Int64)) fun x68 =>
            f_X4_complete_L5 ta tb tc tp tq tr ts p0 p1 n x68
          else
            if p1 = (0 : Int64) then
              dm_b7 (f_X4_apply ta tb tc tp tq tr ts p0 (0 : Int64) p1 v1) fun w79 w80 w81 w82 w83 w84 w85 =>
              some (w79, w80, w81, w82, w83, w84, w85)
            else
              dm_g (¬ p1 = 0) <|
              dm_b7 (f_X4_apply ta tb tc tp tq tr ts p0 (((p0 * v1) - (1 : Int64)) / p1) p1 v1) fun w71 w72 w73 w74 w75 w76 w77 =>
              some (w71, w72, w73, w74, w75, w76, w77)
        else
          if (0 : Int32) = 0 then
            dm_let (v1 + (1 : Int64)) fun x48 =>
            f_X4_complete_L5 ta tb tc tp tq tr ts p0 p1 n x48
          else
            if p1 = (0 : Int64) then
              dm_b7 (f_X4_apply ta tb tc tp tq tr ts p0 (0 : Int64) p1 v1) fun w59 w60 w61 w62 w63 w64 w65 =>
              some (w59, w60, w61, w62, w63, w64, w65)
            else
              dm_g (¬ p1 = 0) <|
              dm_b7 (f_X4_apply ta tb tc tp tq tr ts p0 (((p0 * v1) - (1 : Int64)) / p1) p1 v1) fun w51 w52 w53 w54 w55 w56 w57 =>
              some (w51, w52, w53, w54, w55, w56, w57)
      else
        dm_g (¬ p1 = 0) <|
        if (((p0 * v1) - (1 : Int64)) - ((p0 * v1) - (1 : Int64)) / p1 * p1) = (0 : Int64) then
          if (1 : Int32) = 0 then
            dm_let (v1 + (1 : Int64)) fun x27 =>
            f_X4_complete_L5 ta tb tc tp tq tr ts p0 p1 n x27
          else
            if p1 = (0 : Int64) then
              dm_b7 (f_X4_apply ta tb tc tp tq tr ts p0 (0 : Int64) p1 v1) fun w38 w39 w40 w41 w42 w43 w44 =>
              some (w38, w39, w40, w41, w42, w43, w44)
            else
              dm_g (¬ p1 = 0) <|
              dm_b7 (f_X4_apply ta tb tc tp tq tr ts p0 (((p0 * v1) - (1 : Int64)) / p1) p1 v1) fun w30 w31 w32 w33 w34 w35 w36 =>
              some (w30, w31, w32, w33, w34, w35, w36)
        else
          if (0 : Int32) = 0 then
            dm_let (v1 + (1 : Int64)) fun x7 =>
            f_X4_complete_L5 ta tb tc tp tq tr ts p0 p1 n x7
          else
            if p1 = (0 : Int64) then
              dm_b7 (f_X4_apply ta tb tc tp tq tr ts p0 (0 : Int64) p1 v1) fun w18 w19 w20 w21 w22 w23 w24 =>
              some (w18, w19, w20, w21, w22, w23, w24)
            else
              dm_g (¬ p1 = 0) <|
              dm_b7 (f_X4_apply ta tb tc tp tq tr ts p0 (((p0 * v1) - (1 : Int64)) / p1) p1 v1) fun w10 w11 w12 w13 w14 w15 w16 =>
              some (w10, w11, w12, w13, w14, w15, w16)
def f_X4_complete (ta : Int64) (tb : Int64) (tc : Int64) (tp : Int64) (tq : Int64) (tr : Int64) (ts : Int64) (p0 : Int64) (p1 : Int64) : Option (Int64 × Int64 × Int64 × Int64 × Int64 × Int64 × Int64) :=
  f_X4_complete_L5 ta tb tc tp tq tr ts p0 p1 100000 (-101 : Int64)
set_option maxHeartbeats 4000000 in
set_option maxRecDepth 100000 in
theorem c_X4_complete (l : Launch) (dC : Nat → ClassId) (dI : Nat → Nat → Nat) (cyI cyJ cyC : ClassId) (th tqA tqB tqC tqL tqW tqO : Nat) (sz : Nat) (tthr : Int32) (tdd : Int32) (tn : Int32) (tla : Nat → Int64) (tlb : Nat → Int64) (tlc : Nat → Int64) (ta : Int64) (tb : Int64) (tc : Int64) (tp : Int64) (tq : Int64) (tr : Int64) (ts : Int64) (tsome : Int32) (tlast : Nat → Int64) (tlet : Int32) (twd : Nat → Int32) (topn : Nat → Int32) (p0 : Int64) (p1 : Int64) (ta' : Int64) (tb' : Int64) (tc' : Int64) (tp' : Int64) (tq' : Int64) (tr' : Int64) (ts' : Int64) (hf : f_X4_complete ta tb tc tp tq tr ts p0 p1 = some (ta', tb', tc', tp', tq', tr', ts')) : Met l yX4_complete wsX4_complete { frames := 1, cells := 0, slots := 0, locals := 36 } (va_Pc [.ref th, .long p0, .long p1] (mc_Pre (dC, dI) (mc_tys cyI cyJ cyC) [(th, .inr (4, [.int tthr, .int tdd, .int tn, .ref tqA, .ref tqB, .ref tqC, .long ta, .long tb, .long tc, .long tp, .long tq, .long tr, .long ts, .int tsome, .ref tqL, .int tlet, .ref tqW, .ref tqO])), (tqA, .inl (cyJ, 40, .inr (.inl tla))), (tqB, .inl (cyJ, 40, .inr (.inl tlb))), (tqC, .inl (cyJ, 40, .inr (.inl tlc))), (tqL, .inl (cyJ, 7, .inr (.inl tlast))), (tqW, .inl (cyC, 40, .inl twd)), (tqO, .inl (cyI, 5, .inl topn))] sz)) (va_Qv (fun _ : Unit => True) (fun _ t => mc_Post (dC, dI) (va_A [(th, .inr (4, [.int tthr, .int tdd, .int tn, .ref tqA, .ref tqB, .ref tqC, .long ta, .long tb, .long tc, .long tp, .long tq, .long tr, .long ts, .int tsome, .ref tqL, .int tlet, .ref tqW, .ref tqO])), (tqA, .inl (cyJ, 40, .inr (.inl tla))), (tqB, .inl (cyJ, 40, .inr (.inl tlb))), (tqC, .inl (cyJ, 40, .inr (.inl tlc))), (tqL, .inl (cyJ, 7, .inr (.inl tlast))), (tqW, .inl (cyC, 40, .inl twd)), (tqO, .inl (cyI, 5, .inl topn))] sz) [(th, .inr (4, [.int tthr, .int tdd, .int tn, .ref tqA, .ref tqB, .ref tqC, .long ta', .long tb', .long tc', .long tp', .long tq', .long tr', .long ts', .int tsome, .ref tqL, .int tlet, .ref tqW, .ref tqO])), (tqA, .inl (cyJ, 40, .inr (.inl tla))), (tqB, .inl (cyJ, 40, .inr (.inl tlb))), (tqC, .inl (cyJ, 40, .inr (.inl tlc))), (tqL, .inl (cyJ, 7, .inr (.inl tlast))), (tqW, .inl (cyC, 40, .inl twd)), (tqO, .inl (cyI, 5, .inl topn))] t) (va_A [(th, .inr (4, [.int tthr, .int tdd, .int tn, .ref tqA, .ref tqB, .ref tqC, .long ta, .long tb, .long tc, .long tp, .long tq, .long tr, .long ts, .int tsome, .ref tqL, .int tlet, .ref tqW, .ref tqO])), (tqA, .inl (cyJ, 40, .inr (.inl tla))), (tqB, .inl (cyJ, 40, .inr (.inl tlb))), (tqC, .inl (cyJ, 40, .inr (.inl tlc))), (tqL, .inl (cyJ, 7, .inr (.inl tlast))), (tqW, .inl (cyC, 40, .inl twd)), (tqO, .inl (cyI, 5, .inl topn))] sz)) 0 0 (va_A [(th, .inr (4, [.int tthr, .int tdd, .int tn, .ref tqA, .ref tqB, .ref tqC, .long ta, .long tb, .long tc, .long tp, .long tq, .long tr, .long ts, .int tsome, .ref tqL, .int tlet, .ref tqW, .ref tqO])), (tqA, .inl (cyJ, 40, .inr (.inl tla))), (tqB, .inl (cyJ, 40, .inr (.inl tlb))), (tqC, .inl (cyJ, 40, .inr (.inl tlc))), (tqL, .inl (cyJ, 7, .inr (.inl tlast))), (tqW, .inl (cyC, 40, .inl twd)), (tqO, .inl (cyI, 5, .inl topn))] sz) := by
  refine Met.ofW (cc := cX4_complete) (maxL := 8) (ret := none) (by decide +kernel) rfl ?_
  intro p e s m args below meth c s₁ B hml hv
  obtain ⟨rfl, hsz, hP, hK, hD0, hnw⟩ := hv
  have hx := B.exec
  have hb := B.bytes
  have hr := B.returns
  have hts := atoms_spec (ws := wsX4_complete) B.pre
  have hown : s.vm.findClass RX4 = some m.cls := findClass_of_methodNamed B.named
  have hlocks := B.notSynchronized
  subst hsz
  have hD := hD0.self (sz := s.heap.size)
  generalize hAe : va_A [(th, .inr (4, [.int tthr, .int tdd, .int tn, .ref tqA, .ref tqB, .ref tqC, .long ta, .long tb, .long tc, .long tp, .long tq, .long tr, .long ts, .int tsome, .ref tqL, .int tlet, .ref tqW, .ref tqO])), (tqA, .inl (cyJ, 40, .inr (.inl tla))), (tqB, .inl (cyJ, 40, .inr (.inl tlb))), (tqC, .inl (cyJ, 40, .inr (.inl tlc))), (tqL, .inl (cyJ, 7, .inr (.inl tlast))), (tqW, .inl (cyC, 40, .inl twd)), (tqO, .inl (cyI, 5, .inl topn))] s.heap.size = A at hD ⊢
  have hA : ∀ q : Nat, s.heap.size ≤ q → A q := fun q h => by rw [← hAe]; exact Or.inr h
  have hS : va_S A s.heap s.heap [] := va_S.rf
  have hP : va_P (dC, dI) vwCl [(th, .inr (4, [.int tthr, .int tdd, .int tn, .ref tqA, .ref tqB, .ref tqC, .long ta, .long tb, .long tc, .long tp, .long tq, .long tr, .long ts, .int tsome, .ref tqL, .int tlet, .ref tqW, .ref tqO])), (tqA, .inl (cyJ, 40, .inr (.inl tla))), (tqB, .inl (cyJ, 40, .inr (.inl tlb))), (tqC, .inl (cyJ, 40, .inr (.inl tlc))), (tqL, .inl (cyJ, 7, .inr (.inl tlast))), (tqW, .inl (cyC, 40, .inl twd)), (tqO, .inl (cyI, 5, .inl topn))] s.heap := hP
  have hl := lv_entry ([.ref th, .long p0, .long p1]) (n := 8) (Nat.le_of_ble_eq_true rfl)
  rw [lg_entry_eq]
  generalize (lg_sl ([.ref th, .long p0, .long p1]) ++ List.replicate (8 - (lg_sl ([.ref th, .long p0, .long p1])).length) Slot.unset).toArray = ls at hl ⊢
  have hl : lv_has ls 8 [(0, .ref th), (1, .long p0), (3, .long p1)] := hl
  obtain ⟨QQ, hQQ⟩ : ∃ Q, Q = MQ below (va_Qv (fun _ : Unit => True) (fun _ t => mc_Post (dC, dI) A [(th, .inr (4, [.int tthr, .int tdd, .int tn, .ref tqA, .ref tqB, .ref tqC, .long ta', .long tb', .long tc', .long tp', .long tq', .long tr', .long ts', .int tsome, .ref tqL, .int tlet, .ref tqW, .ref tqO])), (tqA, .inl (cyJ, 40, .inr (.inl tla))), (tqB, .inl (cyJ, 40, .inr (.inl tlb))), (tqC, .inl (cyJ, 40, .inr (.inl tlc))), (tqL, .inl (cyJ, 7, .inr (.inl tlast))), (tqW, .inl (cyC, 40, .inl twd)), (tqO, .inl (cyI, 5, .inl topn))] t) A) ([Value.ref th, Value.long p0, Value.long p1] : List Value).toArray s 0 0 A := ⟨_, rfl⟩
  rw [← hQQ]
  have h := hf
  unfold f_X4_complete at h
  refine lv_ldc2 (v := -101) hx hb hown (hts (.constantLong RX4 128 (-101)) (by decide +kernel)) dX4_complete_0 ?_
  refine lv_lstore (lv' := [(5, .long (-101 : Int64)), (0, .ref th), (1, .long p0), (3, .long p1)]) hx hb dX4_complete_3 hl (by decide) rfl (fun ls hl => ?_)
  have L5 : ∀ (n5 : Nat) (v1 : Int64) (H : Heap) (locs : List Loc) (ls : Array Slot), f_X4_complete_L5 ta tb tc tp tq tr ts p0 p1 n5 v1 = some (ta', tb', tc', tp', tq', tr', ts') → va_P (dC, dI) vwCl [(th, .inr (4, [.int tthr, .int tdd, .int tn, .ref tqA, .ref tqB, .ref tqC, .long ta, .long tb, .long tc, .long tp, .long tq, .long tr, .long ts, .int tsome, .ref tqL, .int tlet, .ref tqW, .ref tqO])), (tqA, .inl (cyJ, 40, .inr (.inl tla))), (tqB, .inl (cyJ, 40, .inr (.inl tlb))), (tqC, .inl (cyJ, 40, .inr (.inl tlc))), (tqL, .inl (cyJ, 7, .inr (.inl tlast))), (tqW, .inl (cyC, 40, .inl twd)), (tqO, .inl (cyI, 5, .inl topn))] H → va_D A [(th, .inr (4, [.int tthr, .int tdd, .int tn, .ref tqA, .ref tqB, .ref tqC, .long ta, .long tb, .long tc, .long tp, .long tq, .long tr, .long ts, .int tsome, .ref tqL, .int tlet, .ref tqW, .ref tqO])), (tqA, .inl (cyJ, 40, .inr (.inl tla))), (tqB, .inl (cyJ, 40, .inr (.inl tlb))), (tqC, .inl (cyJ, 40, .inr (.inl tlc))), (tqL, .inl (cyJ, 7, .inr (.inl tlast))), (tqW, .inl (cyC, 40, .inl twd)), (tqO, .inl (cyI, 5, .inl topn))] → va_S A s.heap H locs → lv_has ls 8 [(5, .long v1), (0, .ref th), (1, .long p0), (3, .long p1)] → W p l e (headSpec wsX4_complete { frames := 1, cells := 0, slots := 0, locals := 36 }).room s m ([Value.ref th, Value.long p0, Value.long p1] : List Value).toArray below meth c H locs 0 0 QQ (F0 m 5 ls []) := by
    intro n5
    induction n5 with
    | zero =>
      intro v1 H locs ls h
      exact nomatch (show (none : Option (Int64 × Int64 × Int64 × Int64 × Int64 × Int64 × Int64)) = some _ from h)
    | succ n5 ih5 =>
      intro v1 H locs ls h hP hD hS hl
      rw [f_X4_complete_L5] at h
      refine lv_lload hx hb dX4_complete_5 (lv_at hl 0 rfl) ?_
      refine lv_ldc2 (v := 101) hx hb hown (hts (.constantLong RX4 130 (101)) (by decide +kernel)) dX4_complete_7 ?_
      refine mc_lif_gt (tgt := 98) hx hb dX4_complete_10 dX4_complete_11 (by decide) (fun hc2 => ?_) (fun hc2 => ?_)
      · have h := dm_t hc2 h
        obtain ⟨hE0, hE1, hE2, hE3, hE4, hE5, hE6⟩ := dm_i7 h
        subst hE0; subst hE1; subst hE2; subst hE3; subst hE4; subst hE5; subst hE6
        rw [hQQ]
        have hP9 := hP.sub (ws' := [(th, .inr (4, [.int tthr, .int tdd, .int tn, .ref tqA, .ref tqB, .ref tqC, .long ta, .long tb, .long tc, .long tp, .long tq, .long tr, .long ts, .int tsome, .ref tqL, .int tlet, .ref tqW, .ref tqO])), (tqA, .inl (cyJ, 40, .inr (.inl tla))), (tqB, .inl (cyJ, 40, .inr (.inl tlb))), (tqC, .inl (cyJ, 40, .inr (.inl tlc))), (tqL, .inl (cyJ, 7, .inr (.inl tlast))), (tqW, .inl (cyC, 40, .inl twd)), (tqO, .inl (cyI, 5, .inl topn))]) [0, 1, 2, 3, 4, 5, 6] rfl
        have hD9 := hD.sub (ws' := [(th, .inr (4, [.int tthr, .int tdd, .int tn, .ref tqA, .ref tqB, .ref tqC, .long ta, .long tb, .long tc, .long tp, .long tq, .long tr, .long ts, .int tsome, .ref tqL, .int tlet, .ref tqW, .ref tqO])), (tqA, .inl (cyJ, 40, .inr (.inl tla))), (tqB, .inl (cyJ, 40, .inr (.inl tlb))), (tqC, .inl (cyJ, 40, .inr (.inl tlc))), (tqL, .inl (cyJ, 7, .inr (.inl tlast))), (tqW, .inl (cyC, 40, .inl twd)), (tqO, .inl (cyI, 5, .inl topn))]) [0, 1, 2, 3, 4, 5, 6] (by decide) rfl
        exact W.vret hx hb hr (fun t ht hW => ⟨⟨(), rfl, trivial, by rw [ht]; exact hP9, hD9⟩, hS.F ht⟩) hS.2.2 dX4_complete_98
      · have h := dm_f hc2 h
        refine lv_lload_n hx hb dX4_complete_14 rfl (lv_at hl 3 rfl) ?_
        refine lv_lconst (v := 0) hx hb dX4_complete_15 (by decide) ?_
        refine mc_lif_ne (tgt := 37) hx hb dX4_complete_16 dX4_complete_17 (by decide) (fun hc3 => ?_) (fun hc3 => ?_)
        · have h := dm_f hc3 h
          refine lv_lload_n hx hb dX4_complete_37 rfl (lv_at hl 2 rfl) ?_
          refine lv_lload hx hb dX4_complete_38 (lv_at hl 0 rfl) ?_
          refine lv_lmul hx hb dX4_complete_40 ?_
          refine lv_lconst (v := 1) hx hb dX4_complete_41 (by decide) ?_
          refine lv_lsub hx hb dX4_complete_42 ?_
          refine lv_lload_n hx hb dX4_complete_43 rfl (lv_at hl 3 rfl) ?_
          obtain ⟨hn4, h⟩ := dm_gs h
          refine lv_lrem hx hb dX4_complete_44 hn4 ?_
          refine lv_lconst (v := 0) hx hb dX4_complete_45 (by decide) ?_
          refine mc_lif_ne (tgt := 54) hx hb dX4_complete_46 dX4_complete_47 (by decide) (fun hc5 => ?_) (fun hc5 => ?_)
          · have h := dm_f hc5 h
            refine lv_iconst (v := 0) hx hb dX4_complete_54 (by decide) ?_
            refine lv_istore (lv' := [(7, .int (0 : Int32)), (5, .long v1), (0, .ref th), (1, .long p0), (3, .long p1)]) hx hb dX4_complete_55 hl (by decide) rfl (fun ls hl => ?_)
            refine lv_iload hx hb dX4_complete_57 (lv_at hl 0 rfl) ?_
            refine lv_if_eq (tgt := 89) hx hb dX4_complete_59 (by decide) (fun hc6 => ?_) (fun hc6 => ?_)
            · have h := dm_t hc6 h
              refine lv_lload hx hb dX4_complete_89 (lv_at hl 1 rfl) ?_
              refine lv_lconst (v := 1) hx hb dX4_complete_91 (by decide) ?_
              refine lv_ladd hx hb dX4_complete_92 ?_
              refine lv_topl (fun x7 ex7 => ?_)
              have h := dm_lu ex7 h
              refine lv_lstore (lv' := [(5, .long x7), (7, .int (0 : Int32)), (0, .ref th), (1, .long p0), (3, .long p1)]) hx hb dX4_complete_93 hl (by decide) rfl (fun ls hl => ?_)
              refine lv_goto (tgt := 5) hx hb dX4_complete_95 (by decide) ?_
              exact ih5 x7 H _ ls h (hP.sub [0, 1, 2, 3, 4, 5, 6] rfl) (hD.sub [0, 1, 2, 3, 4, 5, 6] (by decide) rfl) hS (lv_sub hl [0, 2, 3, 4] rfl)
            · have h := dm_f hc6 h
              refine lv_aload_n hx hb dX4_complete_62 rfl (lv_at hl 2 rfl) ?_
              refine lv_lload_n hx hb dX4_complete_63 rfl (lv_at hl 3 rfl) ?_
              refine lv_lload_n hx hb dX4_complete_64 rfl (lv_at hl 4 rfl) ?_
              refine lv_lconst (v := 0) hx hb dX4_complete_65 (by decide) ?_
              refine mc_lif_ne (tgt := 74) hx hb dX4_complete_66 dX4_complete_67 (by decide) (fun hc8 => ?_) (fun hc8 => ?_)
              · have h := dm_f hc8 h
                refine lv_lload_n hx hb dX4_complete_74 rfl (lv_at hl 3 rfl) ?_
                refine lv_lload hx hb dX4_complete_75 (lv_at hl 1 rfl) ?_
                refine lv_lmul hx hb dX4_complete_77 ?_
                refine lv_lconst (v := 1) hx hb dX4_complete_78 (by decide) ?_
                refine lv_lsub hx hb dX4_complete_79 ?_
                refine lv_lload_n hx hb dX4_complete_80 rfl (lv_at hl 4 rfl) ?_
                obtain ⟨hn9, h⟩ := dm_gs h
                refine lv_ldiv hx hb dX4_complete_81 hn9 ?_
                refine lv_lload_n hx hb dX4_complete_82 rfl (lv_at hl 4 rfl) ?_
                refine lv_lload hx hb dX4_complete_83 (lv_at hl 1 rfl) ?_
                obtain ⟨w10, w11, w12, w13, w14, w15, w16, hk17, h⟩ := dm_b7s h
                refine mc_v (wr := []) (va_runV (As := [.long p0, .long (((p0 * v1) - (1 : Int64)) / p1), .long p1, .long v1]) (rest := []) ⟨hx, hb, hml, hown, hts⟩ (c_X4_apply l dC dI cyI cyJ cyC th tqA tqB tqC tqL tqW tqO H.size tthr tdd tn tla tlb tlc ta tb tc tp tq tr ts tsome tlast tlet twd topn p0 (((p0 * v1) - (1 : Int64)) / p1) p1 v1 w10 w11 w12 w13 w14 w15 w16 hk17) (cwV 4 hts gX4_complete_X4_apply rfl rfl rfl (by decide +kernel) ⟨(Nat.le_of_ble_eq_true rfl), (Nat.le_of_ble_eq_true rfl)⟩) (mc_preV hK (hP.sub (ws' := [(th, .inr (4, [.int tthr, .int tdd, .int tn, .ref tqA, .ref tqB, .ref tqC, .long ta, .long tb, .long tc, .long tp, .long tq, .long tr, .long ts, .int tsome, .ref tqL, .int tlet, .ref tqW, .ref tqO])), (tqA, .inl (cyJ, 40, .inr (.inl tla))), (tqB, .inl (cyJ, 40, .inr (.inl tlb))), (tqC, .inl (cyJ, 40, .inr (.inl tlc))), (tqL, .inl (cyJ, 7, .inr (.inl tlast))), (tqW, .inl (cyC, 40, .inl twd)), (tqO, .inl (cyI, 5, .inl topn))]) [0, 1, 2, 3, 4, 5, 6] rfl) (hD.sub (ws' := [(th, .inr (4, [.int tthr, .int tdd, .int tn, .ref tqA, .ref tqB, .ref tqC, .long ta, .long tb, .long tc, .long tp, .long tq, .long tr, .long ts, .int tsome, .ref tqL, .int tlet, .ref tqW, .ref tqO])), (tqA, .inl (cyJ, 40, .inr (.inl tla))), (tqB, .inl (cyJ, 40, .inr (.inl tlb))), (tqC, .inl (cyJ, 40, .inr (.inl tlc))), (tqL, .inl (cyJ, 7, .inr (.inl tlast))), (tqW, .inl (cyC, 40, .inl twd)), (tqO, .inl (cyI, 5, .inl topn))]) [0, 1, 2, 3, 4, 5, 6] (by decide) rfl) hnw rfl rfl) rfl rfl hl.1 rfl (lv_room (Nat.le_of_ble_eq_true rfl)) dX4_complete_85 ⟨Nat.zero_le _, Nat.zero_le _⟩) hP hD hS hA [0, 1, 2, 3, 4, 5, 6] [] rfl rfl rfl (by decide) (fun H locs hP hD hS => ?_)
                have hP : va_P (dC, dI) vwCl [(th, .inr (4, [.int tthr, .int tdd, .int tn, .ref tqA, .ref tqB, .ref tqC, .long w10, .long w11, .long w12, .long w13, .long w14, .long w15, .long w16, .int tsome, .ref tqL, .int tlet, .ref tqW, .ref tqO])), (tqA, .inl (cyJ, 40, .inr (.inl tla))), (tqB, .inl (cyJ, 40, .inr (.inl tlb))), (tqC, .inl (cyJ, 40, .inr (.inl tlc))), (tqL, .inl (cyJ, 7, .inr (.inl tlast))), (tqW, .inl (cyC, 40, .inl twd)), (tqO, .inl (cyI, 5, .inl topn))] H := hP
                have hD : va_D A [(th, .inr (4, [.int tthr, .int tdd, .int tn, .ref tqA, .ref tqB, .ref tqC, .long w10, .long w11, .long w12, .long w13, .long w14, .long w15, .long w16, .int tsome, .ref tqL, .int tlet, .ref tqW, .ref tqO])), (tqA, .inl (cyJ, 40, .inr (.inl tla))), (tqB, .inl (cyJ, 40, .inr (.inl tlb))), (tqC, .inl (cyJ, 40, .inr (.inl tlc))), (tqL, .inl (cyJ, 7, .inr (.inl tlast))), (tqW, .inl (cyC, 40, .inl twd)), (tqO, .inl (cyI, 5, .inl topn))] := hD
                obtain ⟨hE0, hE1, hE2, hE3, hE4, hE5, hE6⟩ := dm_i7 h
                subst hE0; subst hE1; subst hE2; subst hE3; subst hE4; subst hE5; subst hE6
                rw [hQQ]
                have hP9 := hP.sub (ws' := [(th, .inr (4, [.int tthr, .int tdd, .int tn, .ref tqA, .ref tqB, .ref tqC, .long w10, .long w11, .long w12, .long w13, .long w14, .long w15, .long w16, .int tsome, .ref tqL, .int tlet, .ref tqW, .ref tqO])), (tqA, .inl (cyJ, 40, .inr (.inl tla))), (tqB, .inl (cyJ, 40, .inr (.inl tlb))), (tqC, .inl (cyJ, 40, .inr (.inl tlc))), (tqL, .inl (cyJ, 7, .inr (.inl tlast))), (tqW, .inl (cyC, 40, .inl twd)), (tqO, .inl (cyI, 5, .inl topn))]) [0, 1, 2, 3, 4, 5, 6] rfl
                have hD9 := hD.sub (ws' := [(th, .inr (4, [.int tthr, .int tdd, .int tn, .ref tqA, .ref tqB, .ref tqC, .long w10, .long w11, .long w12, .long w13, .long w14, .long w15, .long w16, .int tsome, .ref tqL, .int tlet, .ref tqW, .ref tqO])), (tqA, .inl (cyJ, 40, .inr (.inl tla))), (tqB, .inl (cyJ, 40, .inr (.inl tlb))), (tqC, .inl (cyJ, 40, .inr (.inl tlc))), (tqL, .inl (cyJ, 7, .inr (.inl tlast))), (tqW, .inl (cyC, 40, .inl twd)), (tqO, .inl (cyI, 5, .inl topn))]) [0, 1, 2, 3, 4, 5, 6] (by decide) rfl
                exact W.vret hx hb hr (fun t ht hW => ⟨⟨(), rfl, trivial, by rw [ht]; exact hP9, hD9⟩, hS.F ht⟩) hS.2.2 dX4_complete_88
              · have h := dm_t hc8 h
                refine lv_lconst (v := 0) hx hb dX4_complete_70 (by decide) ?_
                refine lv_goto (tgt := 82) hx hb dX4_complete_71 (by decide) ?_
                refine lv_lload_n hx hb dX4_complete_82 rfl (lv_at hl 4 rfl) ?_
                refine lv_lload hx hb dX4_complete_83 (lv_at hl 1 rfl) ?_
                obtain ⟨w18, w19, w20, w21, w22, w23, w24, hk25, h⟩ := dm_b7s h
                refine mc_v (wr := []) (va_runV (As := [.long p0, .long (0 : Int64), .long p1, .long v1]) (rest := []) ⟨hx, hb, hml, hown, hts⟩ (c_X4_apply l dC dI cyI cyJ cyC th tqA tqB tqC tqL tqW tqO H.size tthr tdd tn tla tlb tlc ta tb tc tp tq tr ts tsome tlast tlet twd topn p0 (0 : Int64) p1 v1 w18 w19 w20 w21 w22 w23 w24 hk25) (cwV 4 hts gX4_complete_X4_apply rfl rfl rfl (by decide +kernel) ⟨(Nat.le_of_ble_eq_true rfl), (Nat.le_of_ble_eq_true rfl)⟩) (mc_preV hK (hP.sub (ws' := [(th, .inr (4, [.int tthr, .int tdd, .int tn, .ref tqA, .ref tqB, .ref tqC, .long ta, .long tb, .long tc, .long tp, .long tq, .long tr, .long ts, .int tsome, .ref tqL, .int tlet, .ref tqW, .ref tqO])), (tqA, .inl (cyJ, 40, .inr (.inl tla))), (tqB, .inl (cyJ, 40, .inr (.inl tlb))), (tqC, .inl (cyJ, 40, .inr (.inl tlc))), (tqL, .inl (cyJ, 7, .inr (.inl tlast))), (tqW, .inl (cyC, 40, .inl twd)), (tqO, .inl (cyI, 5, .inl topn))]) [0, 1, 2, 3, 4, 5, 6] rfl) (hD.sub (ws' := [(th, .inr (4, [.int tthr, .int tdd, .int tn, .ref tqA, .ref tqB, .ref tqC, .long ta, .long tb, .long tc, .long tp, .long tq, .long tr, .long ts, .int tsome, .ref tqL, .int tlet, .ref tqW, .ref tqO])), (tqA, .inl (cyJ, 40, .inr (.inl tla))), (tqB, .inl (cyJ, 40, .inr (.inl tlb))), (tqC, .inl (cyJ, 40, .inr (.inl tlc))), (tqL, .inl (cyJ, 7, .inr (.inl tlast))), (tqW, .inl (cyC, 40, .inl twd)), (tqO, .inl (cyI, 5, .inl topn))]) [0, 1, 2, 3, 4, 5, 6] (by decide) rfl) hnw rfl rfl) rfl rfl hl.1 rfl (lv_room (Nat.le_of_ble_eq_true rfl)) dX4_complete_85 ⟨Nat.zero_le _, Nat.zero_le _⟩) hP hD hS hA [0, 1, 2, 3, 4, 5, 6] [] rfl rfl rfl (by decide) (fun H locs hP hD hS => ?_)
                have hP : va_P (dC, dI) vwCl [(th, .inr (4, [.int tthr, .int tdd, .int tn, .ref tqA, .ref tqB, .ref tqC, .long w18, .long w19, .long w20, .long w21, .long w22, .long w23, .long w24, .int tsome, .ref tqL, .int tlet, .ref tqW, .ref tqO])), (tqA, .inl (cyJ, 40, .inr (.inl tla))), (tqB, .inl (cyJ, 40, .inr (.inl tlb))), (tqC, .inl (cyJ, 40, .inr (.inl tlc))), (tqL, .inl (cyJ, 7, .inr (.inl tlast))), (tqW, .inl (cyC, 40, .inl twd)), (tqO, .inl (cyI, 5, .inl topn))] H := hP
                have hD : va_D A [(th, .inr (4, [.int tthr, .int tdd, .int tn, .ref tqA, .ref tqB, .ref tqC, .long w18, .long w19, .long w20, .long w21, .long w22, .long w23, .long w24, .int tsome, .ref tqL, .int tlet, .ref tqW, .ref tqO])), (tqA, .inl (cyJ, 40, .inr (.inl tla))), (tqB, .inl (cyJ, 40, .inr (.inl tlb))), (tqC, .inl (cyJ, 40, .inr (.inl tlc))), (tqL, .inl (cyJ, 7, .inr (.inl tlast))), (tqW, .inl (cyC, 40, .inl twd)), (tqO, .inl (cyI, 5, .inl topn))] := hD
                obtain ⟨hE0, hE1, hE2, hE3, hE4, hE5, hE6⟩ := dm_i7 h
                subst hE0; subst hE1; subst hE2; subst hE3; subst hE4; subst hE5; subst hE6
                rw [hQQ]
                have hP9 := hP.sub (ws' := [(th, .inr (4, [.int tthr, .int tdd, .int tn, .ref tqA, .ref tqB, .ref tqC, .long w18, .long w19, .long w20, .long w21, .long w22, .long w23, .long w24, .int tsome, .ref tqL, .int tlet, .ref tqW, .ref tqO])), (tqA, .inl (cyJ, 40, .inr (.inl tla))), (tqB, .inl (cyJ, 40, .inr (.inl tlb))), (tqC, .inl (cyJ, 40, .inr (.inl tlc))), (tqL, .inl (cyJ, 7, .inr (.inl tlast))), (tqW, .inl (cyC, 40, .inl twd)), (tqO, .inl (cyI, 5, .inl topn))]) [0, 1, 2, 3, 4, 5, 6] rfl
                have hD9 := hD.sub (ws' := [(th, .inr (4, [.int tthr, .int tdd, .int tn, .ref tqA, .ref tqB, .ref tqC, .long w18, .long w19, .long w20, .long w21, .long w22, .long w23, .long w24, .int tsome, .ref tqL, .int tlet, .ref tqW, .ref tqO])), (tqA, .inl (cyJ, 40, .inr (.inl tla))), (tqB, .inl (cyJ, 40, .inr (.inl tlb))), (tqC, .inl (cyJ, 40, .inr (.inl tlc))), (tqL, .inl (cyJ, 7, .inr (.inl tlast))), (tqW, .inl (cyC, 40, .inl twd)), (tqO, .inl (cyI, 5, .inl topn))]) [0, 1, 2, 3, 4, 5, 6] (by decide) rfl
                exact W.vret hx hb hr (fun t ht hW => ⟨⟨(), rfl, trivial, by rw [ht]; exact hP9, hD9⟩, hS.F ht⟩) hS.2.2 dX4_complete_88
          · have h := dm_t hc5 h
            refine lv_iconst (v := 1) hx hb dX4_complete_50 (by decide) ?_
            refine lv_goto (tgt := 55) hx hb dX4_complete_51 (by decide) ?_
            refine lv_istore (lv' := [(7, .int (1 : Int32)), (5, .long v1), (0, .ref th), (1, .long p0), (3, .long p1)]) hx hb dX4_complete_55 hl (by decide) rfl (fun ls hl => ?_)
            refine lv_iload hx hb dX4_complete_57 (lv_at hl 0 rfl) ?_
            refine lv_if_eq (tgt := 89) hx hb dX4_complete_59 (by decide) (fun hc26 => ?_) (fun hc26 => ?_)
            · have h := dm_t hc26 h
              refine lv_lload hx hb dX4_complete_89 (lv_at hl 1 rfl) ?_
              refine lv_lconst (v := 1) hx hb dX4_complete_91 (by decide) ?_
              refine lv_ladd hx hb dX4_complete_92 ?_
              refine lv_topl (fun x27 ex27 => ?_)
              have h := dm_lu ex27 h
              refine lv_lstore (lv' := [(5, .long x27), (7, .int (1 : Int32)), (0, .ref th), (1, .long p0), (3, .long p1)]) hx hb dX4_complete_93 hl (by decide) rfl (fun ls hl => ?_)
              refine lv_goto (tgt := 5) hx hb dX4_complete_95 (by decide) ?_
              exact ih5 x27 H _ ls h (hP.sub [0, 1, 2, 3, 4, 5, 6] rfl) (hD.sub [0, 1, 2, 3, 4, 5, 6] (by decide) rfl) hS (lv_sub hl [0, 2, 3, 4] rfl)
            · have h := dm_f hc26 h
              refine lv_aload_n hx hb dX4_complete_62 rfl (lv_at hl 2 rfl) ?_
              refine lv_lload_n hx hb dX4_complete_63 rfl (lv_at hl 3 rfl) ?_
              refine lv_lload_n hx hb dX4_complete_64 rfl (lv_at hl 4 rfl) ?_
              refine lv_lconst (v := 0) hx hb dX4_complete_65 (by decide) ?_
              refine mc_lif_ne (tgt := 74) hx hb dX4_complete_66 dX4_complete_67 (by decide) (fun hc28 => ?_) (fun hc28 => ?_)
              · have h := dm_f hc28 h
                refine lv_lload_n hx hb dX4_complete_74 rfl (lv_at hl 3 rfl) ?_
                refine lv_lload hx hb dX4_complete_75 (lv_at hl 1 rfl) ?_
                refine lv_lmul hx hb dX4_complete_77 ?_
                refine lv_lconst (v := 1) hx hb dX4_complete_78 (by decide) ?_
                refine lv_lsub hx hb dX4_complete_79 ?_
                refine lv_lload_n hx hb dX4_complete_80 rfl (lv_at hl 4 rfl) ?_
                obtain ⟨hn29, h⟩ := dm_gs h
                refine lv_ldiv hx hb dX4_complete_81 hn29 ?_
                refine lv_lload_n hx hb dX4_complete_82 rfl (lv_at hl 4 rfl) ?_
                refine lv_lload hx hb dX4_complete_83 (lv_at hl 1 rfl) ?_
                obtain ⟨w30, w31, w32, w33, w34, w35, w36, hk37, h⟩ := dm_b7s h
                refine mc_v (wr := []) (va_runV (As := [.long p0, .long (((p0 * v1) - (1 : Int64)) / p1), .long p1, .long v1]) (rest := []) ⟨hx, hb, hml, hown, hts⟩ (c_X4_apply l dC dI cyI cyJ cyC th tqA tqB tqC tqL tqW tqO H.size tthr tdd tn tla tlb tlc ta tb tc tp tq tr ts tsome tlast tlet twd topn p0 (((p0 * v1) - (1 : Int64)) / p1) p1 v1 w30 w31 w32 w33 w34 w35 w36 hk37) (cwV 4 hts gX4_complete_X4_apply rfl rfl rfl (by decide +kernel) ⟨(Nat.le_of_ble_eq_true rfl), (Nat.le_of_ble_eq_true rfl)⟩) (mc_preV hK (hP.sub (ws' := [(th, .inr (4, [.int tthr, .int tdd, .int tn, .ref tqA, .ref tqB, .ref tqC, .long ta, .long tb, .long tc, .long tp, .long tq, .long tr, .long ts, .int tsome, .ref tqL, .int tlet, .ref tqW, .ref tqO])), (tqA, .inl (cyJ, 40, .inr (.inl tla))), (tqB, .inl (cyJ, 40, .inr (.inl tlb))), (tqC, .inl (cyJ, 40, .inr (.inl tlc))), (tqL, .inl (cyJ, 7, .inr (.inl tlast))), (tqW, .inl (cyC, 40, .inl twd)), (tqO, .inl (cyI, 5, .inl topn))]) [0, 1, 2, 3, 4, 5, 6] rfl) (hD.sub (ws' := [(th, .inr (4, [.int tthr, .int tdd, .int tn, .ref tqA, .ref tqB, .ref tqC, .long ta, .long tb, .long tc, .long tp, .long tq, .long tr, .long ts, .int tsome, .ref tqL, .int tlet, .ref tqW, .ref tqO])), (tqA, .inl (cyJ, 40, .inr (.inl tla))), (tqB, .inl (cyJ, 40, .inr (.inl tlb))), (tqC, .inl (cyJ, 40, .inr (.inl tlc))), (tqL, .inl (cyJ, 7, .inr (.inl tlast))), (tqW, .inl (cyC, 40, .inl twd)), (tqO, .inl (cyI, 5, .inl topn))]) [0, 1, 2, 3, 4, 5, 6] (by decide) rfl) hnw rfl rfl) rfl rfl hl.1 rfl (lv_room (Nat.le_of_ble_eq_true rfl)) dX4_complete_85 ⟨Nat.zero_le _, Nat.zero_le _⟩) hP hD hS hA [0, 1, 2, 3, 4, 5, 6] [] rfl rfl rfl (by decide) (fun H locs hP hD hS => ?_)
                have hP : va_P (dC, dI) vwCl [(th, .inr (4, [.int tthr, .int tdd, .int tn, .ref tqA, .ref tqB, .ref tqC, .long w30, .long w31, .long w32, .long w33, .long w34, .long w35, .long w36, .int tsome, .ref tqL, .int tlet, .ref tqW, .ref tqO])), (tqA, .inl (cyJ, 40, .inr (.inl tla))), (tqB, .inl (cyJ, 40, .inr (.inl tlb))), (tqC, .inl (cyJ, 40, .inr (.inl tlc))), (tqL, .inl (cyJ, 7, .inr (.inl tlast))), (tqW, .inl (cyC, 40, .inl twd)), (tqO, .inl (cyI, 5, .inl topn))] H := hP
                have hD : va_D A [(th, .inr (4, [.int tthr, .int tdd, .int tn, .ref tqA, .ref tqB, .ref tqC, .long w30, .long w31, .long w32, .long w33, .long w34, .long w35, .long w36, .int tsome, .ref tqL, .int tlet, .ref tqW, .ref tqO])), (tqA, .inl (cyJ, 40, .inr (.inl tla))), (tqB, .inl (cyJ, 40, .inr (.inl tlb))), (tqC, .inl (cyJ, 40, .inr (.inl tlc))), (tqL, .inl (cyJ, 7, .inr (.inl tlast))), (tqW, .inl (cyC, 40, .inl twd)), (tqO, .inl (cyI, 5, .inl topn))] := hD
                obtain ⟨hE0, hE1, hE2, hE3, hE4, hE5, hE6⟩ := dm_i7 h
                subst hE0; subst hE1; subst hE2; subst hE3; subst hE4; subst hE5; subst hE6
                rw [hQQ]
                have hP9 := hP.sub (ws' := [(th, .inr (4, [.int tthr, .int tdd, .int tn, .ref tqA, .ref tqB, .ref tqC, .long w30, .long w31, .long w32, .long w33, .long w34, .long w35, .long w36, .int tsome, .ref tqL, .int tlet, .ref tqW, .ref tqO])), (tqA, .inl (cyJ, 40, .inr (.inl tla))), (tqB, .inl (cyJ, 40, .inr (.inl tlb))), (tqC, .inl (cyJ, 40, .inr (.inl tlc))), (tqL, .inl (cyJ, 7, .inr (.inl tlast))), (tqW, .inl (cyC, 40, .inl twd)), (tqO, .inl (cyI, 5, .inl topn))]) [0, 1, 2, 3, 4, 5, 6] rfl
                have hD9 := hD.sub (ws' := [(th, .inr (4, [.int tthr, .int tdd, .int tn, .ref tqA, .ref tqB, .ref tqC, .long w30, .long w31, .long w32, .long w33, .long w34, .long w35, .long w36, .int tsome, .ref tqL, .int tlet, .ref tqW, .ref tqO])), (tqA, .inl (cyJ, 40, .inr (.inl tla))), (tqB, .inl (cyJ, 40, .inr (.inl tlb))), (tqC, .inl (cyJ, 40, .inr (.inl tlc))), (tqL, .inl (cyJ, 7, .inr (.inl tlast))), (tqW, .inl (cyC, 40, .inl twd)), (tqO, .inl (cyI, 5, .inl topn))]) [0, 1, 2, 3, 4, 5, 6] (by decide) rfl
                exact W.vret hx hb hr (fun t ht hW => ⟨⟨(), rfl, trivial, by rw [ht]; exact hP9, hD9⟩, hS.F ht⟩) hS.2.2 dX4_complete_88
              · have h := dm_t hc28 h
                refine lv_lconst (v := 0) hx hb dX4_complete_70 (by decide) ?_
                refine lv_goto (tgt := 82) hx hb dX4_complete_71 (by decide) ?_
                refine lv_lload_n hx hb dX4_complete_82 rfl (lv_at hl 4 rfl) ?_
                refine lv_lload hx hb dX4_complete_83 (lv_at hl 1 rfl) ?_
                obtain ⟨w38, w39, w40, w41, w42, w43, w44, hk45, h⟩ := dm_b7s h
                refine mc_v (wr := []) (va_runV (As := [.long p0, .long (0 : Int64), .long p1, .long v1]) (rest := []) ⟨hx, hb, hml, hown, hts⟩ (c_X4_apply l dC dI cyI cyJ cyC th tqA tqB tqC tqL tqW tqO H.size tthr tdd tn tla tlb tlc ta tb tc tp tq tr ts tsome tlast tlet twd topn p0 (0 : Int64) p1 v1 w38 w39 w40 w41 w42 w43 w44 hk45) (cwV 4 hts gX4_complete_X4_apply rfl rfl rfl (by decide +kernel) ⟨(Nat.le_of_ble_eq_true rfl), (Nat.le_of_ble_eq_true rfl)⟩) (mc_preV hK (hP.sub (ws' := [(th, .inr (4, [.int tthr, .int tdd, .int tn, .ref tqA, .ref tqB, .ref tqC, .long ta, .long tb, .long tc, .long tp, .long tq, .long tr, .long ts, .int tsome, .ref tqL, .int tlet, .ref tqW, .ref tqO])), (tqA, .inl (cyJ, 40, .inr (.inl tla))), (tqB, .inl (cyJ, 40, .inr (.inl tlb))), (tqC, .inl (cyJ, 40, .inr (.inl tlc))), (tqL, .inl (cyJ, 7, .inr (.inl tlast))), (tqW, .inl (cyC, 40, .inl twd)), (tqO, .inl (cyI, 5, .inl topn))]) [0, 1, 2, 3, 4, 5, 6] rfl) (hD.sub (ws' := [(th, .inr (4, [.int tthr, .int tdd, .int tn, .ref tqA, .ref tqB, .ref tqC, .long ta, .long tb, .long tc, .long tp, .long tq, .long tr, .long ts, .int tsome, .ref tqL, .int tlet, .ref tqW, .ref tqO])), (tqA, .inl (cyJ, 40, .inr (.inl tla))), (tqB, .inl (cyJ, 40, .inr (.inl tlb))), (tqC, .inl (cyJ, 40, .inr (.inl tlc))), (tqL, .inl (cyJ, 7, .inr (.inl tlast))), (tqW, .inl (cyC, 40, .inl twd)), (tqO, .inl (cyI, 5, .inl topn))]) [0, 1, 2, 3, 4, 5, 6] (by decide) rfl) hnw rfl rfl) rfl rfl hl.1 rfl (lv_room (Nat.le_of_ble_eq_true rfl)) dX4_complete_85 ⟨Nat.zero_le _, Nat.zero_le _⟩) hP hD hS hA [0, 1, 2, 3, 4, 5, 6] [] rfl rfl rfl (by decide) (fun H locs hP hD hS => ?_)
                have hP : va_P (dC, dI) vwCl [(th, .inr (4, [.int tthr, .int tdd, .int tn, .ref tqA, .ref tqB, .ref tqC, .long w38, .long w39, .long w40, .long w41, .long w42, .long w43, .long w44, .int tsome, .ref tqL, .int tlet, .ref tqW, .ref tqO])), (tqA, .inl (cyJ, 40, .inr (.inl tla))), (tqB, .inl (cyJ, 40, .inr (.inl tlb))), (tqC, .inl (cyJ, 40, .inr (.inl tlc))), (tqL, .inl (cyJ, 7, .inr (.inl tlast))), (tqW, .inl (cyC, 40, .inl twd)), (tqO, .inl (cyI, 5, .inl topn))] H := hP
                have hD : va_D A [(th, .inr (4, [.int tthr, .int tdd, .int tn, .ref tqA, .ref tqB, .ref tqC, .long w38, .long w39, .long w40, .long w41, .long w42, .long w43, .long w44, .int tsome, .ref tqL, .int tlet, .ref tqW, .ref tqO])), (tqA, .inl (cyJ, 40, .inr (.inl tla))), (tqB, .inl (cyJ, 40, .inr (.inl tlb))), (tqC, .inl (cyJ, 40, .inr (.inl tlc))), (tqL, .inl (cyJ, 7, .inr (.inl tlast))), (tqW, .inl (cyC, 40, .inl twd)), (tqO, .inl (cyI, 5, .inl topn))] := hD
                obtain ⟨hE0, hE1, hE2, hE3, hE4, hE5, hE6⟩ := dm_i7 h
                subst hE0; subst hE1; subst hE2; subst hE3; subst hE4; subst hE5; subst hE6
                rw [hQQ]
                have hP9 := hP.sub (ws' := [(th, .inr (4, [.int tthr, .int tdd, .int tn, .ref tqA, .ref tqB, .ref tqC, .long w38, .long w39, .long w40, .long w41, .long w42, .long w43, .long w44, .int tsome, .ref tqL, .int tlet, .ref tqW, .ref tqO])), (tqA, .inl (cyJ, 40, .inr (.inl tla))), (tqB, .inl (cyJ, 40, .inr (.inl tlb))), (tqC, .inl (cyJ, 40, .inr (.inl tlc))), (tqL, .inl (cyJ, 7, .inr (.inl tlast))), (tqW, .inl (cyC, 40, .inl twd)), (tqO, .inl (cyI, 5, .inl topn))]) [0, 1, 2, 3, 4, 5, 6] rfl
                have hD9 := hD.sub (ws' := [(th, .inr (4, [.int tthr, .int tdd, .int tn, .ref tqA, .ref tqB, .ref tqC, .long w38, .long w39, .long w40, .long w41, .long w42, .long w43, .long w44, .int tsome, .ref tqL, .int tlet, .ref tqW, .ref tqO])), (tqA, .inl (cyJ, 40, .inr (.inl tla))), (tqB, .inl (cyJ, 40, .inr (.inl tlb))), (tqC, .inl (cyJ, 40, .inr (.inl tlc))), (tqL, .inl (cyJ, 7, .inr (.inl tlast))), (tqW, .inl (cyC, 40, .inl twd)), (tqO, .inl (cyI, 5, .inl topn))]) [0, 1, 2, 3, 4, 5, 6] (by decide) rfl
                exact W.vret hx hb hr (fun t ht hW => ⟨⟨(), rfl, trivial, by rw [ht]; exact hP9, hD9⟩, hS.F ht⟩) hS.2.2 dX4_complete_88
        · have h := dm_t hc3 h
          refine lv_lload_n hx hb dX4_complete_20 rfl (lv_at hl 2 rfl) ?_
          refine lv_lload hx hb dX4_complete_21 (lv_at hl 0 rfl) ?_
          refine lv_lmul hx hb dX4_complete_23 ?_
          refine lv_lconst (v := 1) hx hb dX4_complete_24 (by decide) ?_
          refine mc_lif_ne (tgt := 33) hx hb dX4_complete_25 dX4_complete_26 (by decide) (fun hc46 => ?_) (fun hc46 => ?_)
          · have h := dm_f hc46 h
            refine lv_iconst (v := 0) hx hb dX4_complete_33 (by decide) ?_
            refine lv_goto (tgt := 55) hx hb dX4_complete_34 (by decide) ?_
            refine lv_istore (lv' := [(7, .int (0 : Int32)), (5, .long v1), (0, .ref th), (1, .long p0), (3, .long p1)]) hx hb dX4_complete_55 hl (by decide) rfl (fun ls hl => ?_)
            refine lv_iload hx hb dX4_complete_57 (lv_at hl 0 rfl) ?_
            refine lv_if_eq (tgt := 89) hx hb dX4_complete_59 (by decide) (fun hc47 => ?_) (fun hc47 => ?_)
            · have h := dm_t hc47 h
              refine lv_lload hx hb dX4_complete_89 (lv_at hl 1 rfl) ?_
              refine lv_lconst (v := 1) hx hb dX4_complete_91 (by decide) ?_
              refine lv_ladd hx hb dX4_complete_92 ?_
              refine lv_topl (fun x48 ex48 => ?_)
              have h := dm_lu ex48 h
              refine lv_lstore (lv' := [(5, .long x48), (7, .int (0 : Int32)), (0, .ref th), (1, .long p0), (3, .long p1)]) hx hb dX4_complete_93 hl (by decide) rfl (fun ls hl => ?_)
              refine lv_goto (tgt := 5) hx hb dX4_complete_95 (by decide) ?_
              exact ih5 x48 H _ ls h (hP.sub [0, 1, 2, 3, 4, 5, 6] rfl) (hD.sub [0, 1, 2, 3, 4, 5, 6] (by decide) rfl) hS (lv_sub hl [0, 2, 3, 4] rfl)
            · have h := dm_f hc47 h
              refine lv_aload_n hx hb dX4_complete_62 rfl (lv_at hl 2 rfl) ?_
              refine lv_lload_n hx hb dX4_complete_63 rfl (lv_at hl 3 rfl) ?_
              refine lv_lload_n hx hb dX4_complete_64 rfl (lv_at hl 4 rfl) ?_
              refine lv_lconst (v := 0) hx hb dX4_complete_65 (by decide) ?_
              refine mc_lif_ne (tgt := 74) hx hb dX4_complete_66 dX4_complete_67 (by decide) (fun hc49 => ?_) (fun hc49 => ?_)
              · have h := dm_f hc49 h
                refine lv_lload_n hx hb dX4_complete_74 rfl (lv_at hl 3 rfl) ?_
                refine lv_lload hx hb dX4_complete_75 (lv_at hl 1 rfl) ?_
                refine lv_lmul hx hb dX4_complete_77 ?_
                refine lv_lconst (v := 1) hx hb dX4_complete_78 (by decide) ?_
                refine lv_lsub hx hb dX4_complete_79 ?_
                refine lv_lload_n hx hb dX4_complete_80 rfl (lv_at hl 4 rfl) ?_
                obtain ⟨hn50, h⟩ := dm_gs h
                refine lv_ldiv hx hb dX4_complete_81 hn50 ?_
                refine lv_lload_n hx hb dX4_complete_82 rfl (lv_at hl 4 rfl) ?_
                refine lv_lload hx hb dX4_complete_83 (lv_at hl 1 rfl) ?_
                obtain ⟨w51, w52, w53, w54, w55, w56, w57, hk58, h⟩ := dm_b7s h
                refine mc_v (wr := []) (va_runV (As := [.long p0, .long (((p0 * v1) - (1 : Int64)) / p1), .long p1, .long v1]) (rest := []) ⟨hx, hb, hml, hown, hts⟩ (c_X4_apply l dC dI cyI cyJ cyC th tqA tqB tqC tqL tqW tqO H.size tthr tdd tn tla tlb tlc ta tb tc tp tq tr ts tsome tlast tlet twd topn p0 (((p0 * v1) - (1 : Int64)) / p1) p1 v1 w51 w52 w53 w54 w55 w56 w57 hk58) (cwV 4 hts gX4_complete_X4_apply rfl rfl rfl (by decide +kernel) ⟨(Nat.le_of_ble_eq_true rfl), (Nat.le_of_ble_eq_true rfl)⟩) (mc_preV hK (hP.sub (ws' := [(th, .inr (4, [.int tthr, .int tdd, .int tn, .ref tqA, .ref tqB, .ref tqC, .long ta, .long tb, .long tc, .long tp, .long tq, .long tr, .long ts, .int tsome, .ref tqL, .int tlet, .ref tqW, .ref tqO])), (tqA, .inl (cyJ, 40, .inr (.inl tla))), (tqB, .inl (cyJ, 40, .inr (.inl tlb))), (tqC, .inl (cyJ, 40, .inr (.inl tlc))), (tqL, .inl (cyJ, 7, .inr (.inl tlast))), (tqW, .inl (cyC, 40, .inl twd)), (tqO, .inl (cyI, 5, .inl topn))]) [0, 1, 2, 3, 4, 5, 6] rfl) (hD.sub (ws' := [(th, .inr (4, [.int tthr, .int tdd, .int tn, .ref tqA, .ref tqB, .ref tqC, .long ta, .long tb, .long tc, .long tp, .long tq, .long tr, .long ts, .int tsome, .ref tqL, .int tlet, .ref tqW, .ref tqO])), (tqA, .inl (cyJ, 40, .inr (.inl tla))), (tqB, .inl (cyJ, 40, .inr (.inl tlb))), (tqC, .inl (cyJ, 40, .inr (.inl tlc))), (tqL, .inl (cyJ, 7, .inr (.inl tlast))), (tqW, .inl (cyC, 40, .inl twd)), (tqO, .inl (cyI, 5, .inl topn))]) [0, 1, 2, 3, 4, 5, 6] (by decide) rfl) hnw rfl rfl) rfl rfl hl.1 rfl (lv_room (Nat.le_of_ble_eq_true rfl)) dX4_complete_85 ⟨Nat.zero_le _, Nat.zero_le _⟩) hP hD hS hA [0, 1, 2, 3, 4, 5, 6] [] rfl rfl rfl (by decide) (fun H locs hP hD hS => ?_)
                have hP : va_P (dC, dI) vwCl [(th, .inr (4, [.int tthr, .int tdd, .int tn, .ref tqA, .ref tqB, .ref tqC, .long w51, .long w52, .long w53, .long w54, .long w55, .long w56, .long w57, .int tsome, .ref tqL, .int tlet, .ref tqW, .ref tqO])), (tqA, .inl (cyJ, 40, .inr (.inl tla))), (tqB, .inl (cyJ, 40, .inr (.inl tlb))), (tqC, .inl (cyJ, 40, .inr (.inl tlc))), (tqL, .inl (cyJ, 7, .inr (.inl tlast))), (tqW, .inl (cyC, 40, .inl twd)), (tqO, .inl (cyI, 5, .inl topn))] H := hP
                have hD : va_D A [(th, .inr (4, [.int tthr, .int tdd, .int tn, .ref tqA, .ref tqB, .ref tqC, .long w51, .long w52, .long w53, .long w54, .long w55, .long w56, .long w57, .int tsome, .ref tqL, .int tlet, .ref tqW, .ref tqO])), (tqA, .inl (cyJ, 40, .inr (.inl tla))), (tqB, .inl (cyJ, 40, .inr (.inl tlb))), (tqC, .inl (cyJ, 40, .inr (.inl tlc))), (tqL, .inl (cyJ, 7, .inr (.inl tlast))), (tqW, .inl (cyC, 40, .inl twd)), (tqO, .inl (cyI, 5, .inl topn))] := hD
                obtain ⟨hE0, hE1, hE2, hE3, hE4, hE5, hE6⟩ := dm_i7 h
                subst hE0; subst hE1; subst hE2; subst hE3; subst hE4; subst hE5; subst hE6
                rw [hQQ]
                have hP9 := hP.sub (ws' := [(th, .inr (4, [.int tthr, .int tdd, .int tn, .ref tqA, .ref tqB, .ref tqC, .long w51, .long w52, .long w53, .long w54, .long w55, .long w56, .long w57, .int tsome, .ref tqL, .int tlet, .ref tqW, .ref tqO])), (tqA, .inl (cyJ, 40, .inr (.inl tla))), (tqB, .inl (cyJ, 40, .inr (.inl tlb))), (tqC, .inl (cyJ, 40, .inr (.inl tlc))), (tqL, .inl (cyJ, 7, .inr (.inl tlast))), (tqW, .inl (cyC, 40, .inl twd)), (tqO, .inl (cyI, 5, .inl topn))]) [0, 1, 2, 3, 4, 5, 6] rfl
                have hD9 := hD.sub (ws' := [(th, .inr (4, [.int tthr, .int tdd, .int tn, .ref tqA, .ref tqB, .ref tqC, .long w51, .long w52, .long w53, .long w54, .long w55, .long w56, .long w57, .int tsome, .ref tqL, .int tlet, .ref tqW, .ref tqO])), (tqA, .inl (cyJ, 40, .inr (.inl tla))), (tqB, .inl (cyJ, 40, .inr (.inl tlb))), (tqC, .inl (cyJ, 40, .inr (.inl tlc))), (tqL, .inl (cyJ, 7, .inr (.inl tlast))), (tqW, .inl (cyC, 40, .inl twd)), (tqO, .inl (cyI, 5, .inl topn))]) [0, 1, 2, 3, 4, 5, 6] (by decide) rfl
                exact W.vret hx hb hr (fun t ht hW => ⟨⟨(), rfl, trivial, by rw [ht]; exact hP9, hD9⟩, hS.F ht⟩) hS.2.2 dX4_complete_88
              · have h := dm_t hc49 h
                refine lv_lconst (v := 0) hx hb dX4_complete_70 (by decide) ?_
                refine lv_goto (tgt := 82) hx hb dX4_complete_71 (by decide) ?_
                refine lv_lload_n hx hb dX4_complete_82 rfl (lv_at hl 4 rfl) ?_
                refine lv_lload hx hb dX4_complete_83 (lv_at hl 1 rfl) ?_
                obtain ⟨w59, w60, w61, w62, w63, w64, w65, hk66, h⟩ := dm_b7s h
                refine mc_v (wr := []) (va_runV (As := [.long p0, .long (0 : Int64), .long p1, .long v1]) (rest := []) ⟨hx, hb, hml, hown, hts⟩ (c_X4_apply l dC dI cyI cyJ cyC th tqA tqB tqC tqL tqW tqO H.size tthr tdd tn tla tlb tlc ta tb tc tp tq tr ts tsome tlast tlet twd topn p0 (0 : Int64) p1 v1 w59 w60 w61 w62 w63 w64 w65 hk66) (cwV 4 hts gX4_complete_X4_apply rfl rfl rfl (by decide +kernel) ⟨(Nat.le_of_ble_eq_true rfl), (Nat.le_of_ble_eq_true rfl)⟩) (mc_preV hK (hP.sub (ws' := [(th, .inr (4, [.int tthr, .int tdd, .int tn, .ref tqA, .ref tqB, .ref tqC, .long ta, .long tb, .long tc, .long tp, .long tq, .long tr, .long ts, .int tsome, .ref tqL, .int tlet, .ref tqW, .ref tqO])), (tqA, .inl (cyJ, 40, .inr (.inl tla))), (tqB, .inl (cyJ, 40, .inr (.inl tlb))), (tqC, .inl (cyJ, 40, .inr (.inl tlc))), (tqL, .inl (cyJ, 7, .inr (.inl tlast))), (tqW, .inl (cyC, 40, .inl twd)), (tqO, .inl (cyI, 5, .inl topn))]) [0, 1, 2, 3, 4, 5, 6] rfl) (hD.sub (ws' := [(th, .inr (4, [.int tthr, .int tdd, .int tn, .ref tqA, .ref tqB, .ref tqC, .long ta, .long tb, .long tc, .long tp, .long tq, .long tr, .long ts, .int tsome, .ref tqL, .int tlet, .ref tqW, .ref tqO])), (tqA, .inl (cyJ, 40, .inr (.inl tla))), (tqB, .inl (cyJ, 40, .inr (.inl tlb))), (tqC, .inl (cyJ, 40, .inr (.inl tlc))), (tqL, .inl (cyJ, 7, .inr (.inl tlast))), (tqW, .inl (cyC, 40, .inl twd)), (tqO, .inl (cyI, 5, .inl topn))]) [0, 1, 2, 3, 4, 5, 6] (by decide) rfl) hnw rfl rfl) rfl rfl hl.1 rfl (lv_room (Nat.le_of_ble_eq_true rfl)) dX4_complete_85 ⟨Nat.zero_le _, Nat.zero_le _⟩) hP hD hS hA [0, 1, 2, 3, 4, 5, 6] [] rfl rfl rfl (by decide) (fun H locs hP hD hS => ?_)
                have hP : va_P (dC, dI) vwCl [(th, .inr (4, [.int tthr, .int tdd, .int tn, .ref tqA, .ref tqB, .ref tqC, .long w59, .long w60, .long w61, .long w62, .long w63, .long w64, .long w65, .int tsome, .ref tqL, .int tlet, .ref tqW, .ref tqO])), (tqA, .inl (cyJ, 40, .inr (.inl tla))), (tqB, .inl (cyJ, 40, .inr (.inl tlb))), (tqC, .inl (cyJ, 40, .inr (.inl tlc))), (tqL, .inl (cyJ, 7, .inr (.inl tlast))), (tqW, .inl (cyC, 40, .inl twd)), (tqO, .inl (cyI, 5, .inl topn))] H := hP
                have hD : va_D A [(th, .inr (4, [.int tthr, .int tdd, .int tn, .ref tqA, .ref tqB, .ref tqC, .long w59, .long w60, .long w61, .long w62, .long w63, .long w64, .long w65, .int tsome, .ref tqL, .int tlet, .ref tqW, .ref tqO])), (tqA, .inl (cyJ, 40, .inr (.inl tla))), (tqB, .inl (cyJ, 40, .inr (.inl tlb))), (tqC, .inl (cyJ, 40, .inr (.inl tlc))), (tqL, .inl (cyJ, 7, .inr (.inl tlast))), (tqW, .inl (cyC, 40, .inl twd)), (tqO, .inl (cyI, 5, .inl topn))] := hD
                obtain ⟨hE0, hE1, hE2, hE3, hE4, hE5, hE6⟩ := dm_i7 h
                subst hE0; subst hE1; subst hE2; subst hE3; subst hE4; subst hE5; subst hE6
                rw [hQQ]
                have hP9 := hP.sub (ws' := [(th, .inr (4, [.int tthr, .int tdd, .int tn, .ref tqA, .ref tqB, .ref tqC, .long w59, .long w60, .long w61, .long w62, .long w63, .long w64, .long w65, .int tsome, .ref tqL, .int tlet, .ref tqW, .ref tqO])), (tqA, .inl (cyJ, 40, .inr (.inl tla))), (tqB, .inl (cyJ, 40, .inr (.inl tlb))), (tqC, .inl (cyJ, 40, .inr (.inl tlc))), (tqL, .inl (cyJ, 7, .inr (.inl tlast))), (tqW, .inl (cyC, 40, .inl twd)), (tqO, .inl (cyI, 5, .inl topn))]) [0, 1, 2, 3, 4, 5, 6] rfl
                have hD9 := hD.sub (ws' := [(th, .inr (4, [.int tthr, .int tdd, .int tn, .ref tqA, .ref tqB, .ref tqC, .long w59, .long w60, .long w61, .long w62, .long w63, .long w64, .long w65, .int tsome, .ref tqL, .int tlet, .ref tqW, .ref tqO])), (tqA, .inl (cyJ, 40, .inr (.inl tla))), (tqB, .inl (cyJ, 40, .inr (.inl tlb))), (tqC, .inl (cyJ, 40, .inr (.inl tlc))), (tqL, .inl (cyJ, 7, .inr (.inl tlast))), (tqW, .inl (cyC, 40, .inl twd)), (tqO, .inl (cyI, 5, .inl topn))]) [0, 1, 2, 3, 4, 5, 6] (by decide) rfl
                exact W.vret hx hb hr (fun t ht hW => ⟨⟨(), rfl, trivial, by rw [ht]; exact hP9, hD9⟩, hS.F ht⟩) hS.2.2 dX4_complete_88
          · have h := dm_t hc46 h
            refine lv_iconst (v := 1) hx hb dX4_complete_29 (by decide) ?_
            refine lv_goto (tgt := 55) hx hb dX4_complete_30 (by decide) ?_
            refine lv_istore (lv' := [(7, .int (1 : Int32)), (5, .long v1), (0, .ref th), (1, .long p0), (3, .long p1)]) hx hb dX4_complete_55 hl (by decide) rfl (fun ls hl => ?_)
            refine lv_iload hx hb dX4_complete_57 (lv_at hl 0 rfl) ?_
            refine lv_if_eq (tgt := 89) hx hb dX4_complete_59 (by decide) (fun hc67 => ?_) (fun hc67 => ?_)
            · have h := dm_t hc67 h
              refine lv_lload hx hb dX4_complete_89 (lv_at hl 1 rfl) ?_
              refine lv_lconst (v := 1) hx hb dX4_complete_91 (by decide) ?_
              refine lv_ladd hx hb dX4_complete_92 ?_
              refine lv_topl (fun x68 ex68 => ?_)
              have h := dm_lu ex68 h
              refine lv_lstore (lv' := [(5, .long x68), (7, .int (1 : Int32)), (0, .ref th), (1, .long p0), (3, .long p1)]) hx hb dX4_complete_93 hl (by decide) rfl (fun ls hl => ?_)
              refine lv_goto (tgt := 5) hx hb dX4_complete_95 (by decide) ?_
              exact ih5 x68 H _ ls h (hP.sub [0, 1, 2, 3, 4, 5, 6] rfl) (hD.sub [0, 1, 2, 3, 4, 5, 6] (by decide) rfl) hS (lv_sub hl [0, 2, 3, 4] rfl)
            · have h := dm_f hc67 h
              refine lv_aload_n hx hb dX4_complete_62 rfl (lv_at hl 2 rfl) ?_
              refine lv_lload_n hx hb dX4_complete_63 rfl (lv_at hl 3 rfl) ?_
              refine lv_lload_n hx hb dX4_complete_64 rfl (lv_at hl 4 rfl) ?_
              refine lv_lconst (v := 0) hx hb dX4_complete_65 (by decide) ?_
              refine mc_lif_ne (tgt := 74) hx hb dX4_complete_66 dX4_complete_67 (by decide) (fun hc69 => ?_) (fun hc69 => ?_)
              · have h := dm_f hc69 h
                refine lv_lload_n hx hb dX4_complete_74 rfl (lv_at hl 3 rfl) ?_
                refine lv_lload hx hb dX4_complete_75 (lv_at hl 1 rfl) ?_
                refine lv_lmul hx hb dX4_complete_77 ?_
                refine lv_lconst (v := 1) hx hb dX4_complete_78 (by decide) ?_
                refine lv_lsub hx hb dX4_complete_79 ?_
                refine lv_lload_n hx hb dX4_complete_80 rfl (lv_at hl 4 rfl) ?_
                obtain ⟨hn70, h⟩ := dm_gs h
                refine lv_ldiv hx hb dX4_complete_81 hn70 ?_
                refine lv_lload_n hx hb dX4_complete_82 rfl (lv_at hl 4 rfl) ?_
                refine lv_lload hx hb dX4_complete_83 (lv_at hl 1 rfl) ?_
                obtain ⟨w71, w72, w73, w74, w75, w76, w77, hk78, h⟩ := dm_b7s h
                refine mc_v (wr := []) (va_runV (As := [.long p0, .long (((p0 * v1) - (1 : Int64)) / p1), .long p1, .long v1]) (rest := []) ⟨hx, hb, hml, hown, hts⟩ (c_X4_apply l dC dI cyI cyJ cyC th tqA tqB tqC tqL tqW tqO H.size tthr tdd tn tla tlb tlc ta tb tc tp tq tr ts tsome tlast tlet twd topn p0 (((p0 * v1) - (1 : Int64)) / p1) p1 v1 w71 w72 w73 w74 w75 w76 w77 hk78) (cwV 4 hts gX4_complete_X4_apply rfl rfl rfl (by decide +kernel) ⟨(Nat.le_of_ble_eq_true rfl), (Nat.le_of_ble_eq_true rfl)⟩) (mc_preV hK (hP.sub (ws' := [(th, .inr (4, [.int tthr, .int tdd, .int tn, .ref tqA, .ref tqB, .ref tqC, .long ta, .long tb, .long tc, .long tp, .long tq, .long tr, .long ts, .int tsome, .ref tqL, .int tlet, .ref tqW, .ref tqO])), (tqA, .inl (cyJ, 40, .inr (.inl tla))), (tqB, .inl (cyJ, 40, .inr (.inl tlb))), (tqC, .inl (cyJ, 40, .inr (.inl tlc))), (tqL, .inl (cyJ, 7, .inr (.inl tlast))), (tqW, .inl (cyC, 40, .inl twd)), (tqO, .inl (cyI, 5, .inl topn))]) [0, 1, 2, 3, 4, 5, 6] rfl) (hD.sub (ws' := [(th, .inr (4, [.int tthr, .int tdd, .int tn, .ref tqA, .ref tqB, .ref tqC, .long ta, .long tb, .long tc, .long tp, .long tq, .long tr, .long ts, .int tsome, .ref tqL, .int tlet, .ref tqW, .ref tqO])), (tqA, .inl (cyJ, 40, .inr (.inl tla))), (tqB, .inl (cyJ, 40, .inr (.inl tlb))), (tqC, .inl (cyJ, 40, .inr (.inl tlc))), (tqL, .inl (cyJ, 7, .inr (.inl tlast))), (tqW, .inl (cyC, 40, .inl twd)), (tqO, .inl (cyI, 5, .inl topn))]) [0, 1, 2, 3, 4, 5, 6] (by decide) rfl) hnw rfl rfl) rfl rfl hl.1 rfl (lv_room (Nat.le_of_ble_eq_true rfl)) dX4_complete_85 ⟨Nat.zero_le _, Nat.zero_le _⟩) hP hD hS hA [0, 1, 2, 3, 4, 5, 6] [] rfl rfl rfl (by decide) (fun H locs hP hD hS => ?_)
                have hP : va_P (dC, dI) vwCl [(th, .inr (4, [.int tthr, .int tdd, .int tn, .ref tqA, .ref tqB, .ref tqC, .long w71, .long w72, .long w73, .long w74, .long w75, .long w76, .long w77, .int tsome, .ref tqL, .int tlet, .ref tqW, .ref tqO])), (tqA, .inl (cyJ, 40, .inr (.inl tla))), (tqB, .inl (cyJ, 40, .inr (.inl tlb))), (tqC, .inl (cyJ, 40, .inr (.inl tlc))), (tqL, .inl (cyJ, 7, .inr (.inl tlast))), (tqW, .inl (cyC, 40, .inl twd)), (tqO, .inl (cyI, 5, .inl topn))] H := hP
                have hD : va_D A [(th, .inr (4, [.int tthr, .int tdd, .int tn, .ref tqA, .ref tqB, .ref tqC, .long w71, .long w72, .long w73, .long w74, .long w75, .long w76, .long w77, .int tsome, .ref tqL, .int tlet, .ref tqW, .ref tqO])), (tqA, .inl (cyJ, 40, .inr (.inl tla))), (tqB, .inl (cyJ, 40, .inr (.inl tlb))), (tqC, .inl (cyJ, 40, .inr (.inl tlc))), (tqL, .inl (cyJ, 7, .inr (.inl tlast))), (tqW, .inl (cyC, 40, .inl twd)), (tqO, .inl (cyI, 5, .inl topn))] := hD
                obtain ⟨hE0, hE1, hE2, hE3, hE4, hE5, hE6⟩ := dm_i7 h
                subst hE0; subst hE1; subst hE2; subst hE3; subst hE4; subst hE5; subst hE6
                rw [hQQ]
                have hP9 := hP.sub (ws' := [(th, .inr (4, [.int tthr, .int tdd, .int tn, .ref tqA, .ref tqB, .ref tqC, .long w71, .long w72, .long w73, .long w74, .long w75, .long w76, .long w77, .int tsome, .ref tqL, .int tlet, .ref tqW, .ref tqO])), (tqA, .inl (cyJ, 40, .inr (.inl tla))), (tqB, .inl (cyJ, 40, .inr (.inl tlb))), (tqC, .inl (cyJ, 40, .inr (.inl tlc))), (tqL, .inl (cyJ, 7, .inr (.inl tlast))), (tqW, .inl (cyC, 40, .inl twd)), (tqO, .inl (cyI, 5, .inl topn))]) [0, 1, 2, 3, 4, 5, 6] rfl
                have hD9 := hD.sub (ws' := [(th, .inr (4, [.int tthr, .int tdd, .int tn, .ref tqA, .ref tqB, .ref tqC, .long w71, .long w72, .long w73, .long w74, .long w75, .long w76, .long w77, .int tsome, .ref tqL, .int tlet, .ref tqW, .ref tqO])), (tqA, .inl (cyJ, 40, .inr (.inl tla))), (tqB, .inl (cyJ, 40, .inr (.inl tlb))), (tqC, .inl (cyJ, 40, .inr (.inl tlc))), (tqL, .inl (cyJ, 7, .inr (.inl tlast))), (tqW, .inl (cyC, 40, .inl twd)), (tqO, .inl (cyI, 5, .inl topn))]) [0, 1, 2, 3, 4, 5, 6] (by decide) rfl
                exact W.vret hx hb hr (fun t ht hW => ⟨⟨(), rfl, trivial, by rw [ht]; exact hP9, hD9⟩, hS.F ht⟩) hS.2.2 dX4_complete_88
              · have h := dm_t hc69 h
                refine lv_lconst (v := 0) hx hb dX4_complete_70 (by decide) ?_
                refine lv_goto (tgt := 82) hx hb dX4_complete_71 (by decide) ?_
                refine lv_lload_n hx hb dX4_complete_82 rfl (lv_at hl 4 rfl) ?_
                refine lv_lload hx hb dX4_complete_83 (lv_at hl 1 rfl) ?_
                obtain ⟨w79, w80, w81, w82, w83, w84, w85, hk86, h⟩ := dm_b7s h
                refine mc_v (wr := []) (va_runV (As := [.long p0, .long (0 : Int64), .long p1, .long v1]) (rest := []) ⟨hx, hb, hml, hown, hts⟩ (c_X4_apply l dC dI cyI cyJ cyC th tqA tqB tqC tqL tqW tqO H.size tthr tdd tn tla tlb tlc ta tb tc tp tq tr ts tsome tlast tlet twd topn p0 (0 : Int64) p1 v1 w79 w80 w81 w82 w83 w84 w85 hk86) (cwV 4 hts gX4_complete_X4_apply rfl rfl rfl (by decide +kernel) ⟨(Nat.le_of_ble_eq_true rfl), (Nat.le_of_ble_eq_true rfl)⟩) (mc_preV hK (hP.sub (ws' := [(th, .inr (4, [.int tthr, .int tdd, .int tn, .ref tqA, .ref tqB, .ref tqC, .long ta, .long tb, .long tc, .long tp, .long tq, .long tr, .long ts, .int tsome, .ref tqL, .int tlet, .ref tqW, .ref tqO])), (tqA, .inl (cyJ, 40, .inr (.inl tla))), (tqB, .inl (cyJ, 40, .inr (.inl tlb))), (tqC, .inl (cyJ, 40, .inr (.inl tlc))), (tqL, .inl (cyJ, 7, .inr (.inl tlast))), (tqW, .inl (cyC, 40, .inl twd)), (tqO, .inl (cyI, 5, .inl topn))]) [0, 1, 2, 3, 4, 5, 6] rfl) (hD.sub (ws' := [(th, .inr (4, [.int tthr, .int tdd, .int tn, .ref tqA, .ref tqB, .ref tqC, .long ta, .long tb, .long tc, .long tp, .long tq, .long tr, .long ts, .int tsome, .ref tqL, .int tlet, .ref tqW, .ref tqO])), (tqA, .inl (cyJ, 40, .inr (.inl tla))), (tqB, .inl (cyJ, 40, .inr (.inl tlb))), (tqC, .inl (cyJ, 40, .inr (.inl tlc))), (tqL, .inl (cyJ, 7, .inr (.inl tlast))), (tqW, .inl (cyC, 40, .inl twd)), (tqO, .inl (cyI, 5, .inl topn))]) [0, 1, 2, 3, 4, 5, 6] (by decide) rfl) hnw rfl rfl) rfl rfl hl.1 rfl (lv_room (Nat.le_of_ble_eq_true rfl)) dX4_complete_85 ⟨Nat.zero_le _, Nat.zero_le _⟩) hP hD hS hA [0, 1, 2, 3, 4, 5, 6] [] rfl rfl rfl (by decide) (fun H locs hP hD hS => ?_)
                have hP : va_P (dC, dI) vwCl [(th, .inr (4, [.int tthr, .int tdd, .int tn, .ref tqA, .ref tqB, .ref tqC, .long w79, .long w80, .long w81, .long w82, .long w83, .long w84, .long w85, .int tsome, .ref tqL, .int tlet, .ref tqW, .ref tqO])), (tqA, .inl (cyJ, 40, .inr (.inl tla))), (tqB, .inl (cyJ, 40, .inr (.inl tlb))), (tqC, .inl (cyJ, 40, .inr (.inl tlc))), (tqL, .inl (cyJ, 7, .inr (.inl tlast))), (tqW, .inl (cyC, 40, .inl twd)), (tqO, .inl (cyI, 5, .inl topn))] H := hP
                have hD : va_D A [(th, .inr (4, [.int tthr, .int tdd, .int tn, .ref tqA, .ref tqB, .ref tqC, .long w79, .long w80, .long w81, .long w82, .long w83, .long w84, .long w85, .int tsome, .ref tqL, .int tlet, .ref tqW, .ref tqO])), (tqA, .inl (cyJ, 40, .inr (.inl tla))), (tqB, .inl (cyJ, 40, .inr (.inl tlb))), (tqC, .inl (cyJ, 40, .inr (.inl tlc))), (tqL, .inl (cyJ, 7, .inr (.inl tlast))), (tqW, .inl (cyC, 40, .inl twd)), (tqO, .inl (cyI, 5, .inl topn))] := hD
                obtain ⟨hE0, hE1, hE2, hE3, hE4, hE5, hE6⟩ := dm_i7 h
                subst hE0; subst hE1; subst hE2; subst hE3; subst hE4; subst hE5; subst hE6
                rw [hQQ]
                have hP9 := hP.sub (ws' := [(th, .inr (4, [.int tthr, .int tdd, .int tn, .ref tqA, .ref tqB, .ref tqC, .long w79, .long w80, .long w81, .long w82, .long w83, .long w84, .long w85, .int tsome, .ref tqL, .int tlet, .ref tqW, .ref tqO])), (tqA, .inl (cyJ, 40, .inr (.inl tla))), (tqB, .inl (cyJ, 40, .inr (.inl tlb))), (tqC, .inl (cyJ, 40, .inr (.inl tlc))), (tqL, .inl (cyJ, 7, .inr (.inl tlast))), (tqW, .inl (cyC, 40, .inl twd)), (tqO, .inl (cyI, 5, .inl topn))]) [0, 1, 2, 3, 4, 5, 6] rfl
                have hD9 := hD.sub (ws' := [(th, .inr (4, [.int tthr, .int tdd, .int tn, .ref tqA, .ref tqB, .ref tqC, .long w79, .long w80, .long w81, .long w82, .long w83, .long w84, .long w85, .int tsome, .ref tqL, .int tlet, .ref tqW, .ref tqO])), (tqA, .inl (cyJ, 40, .inr (.inl tla))), (tqB, .inl (cyJ, 40, .inr (.inl tlb))), (tqC, .inl (cyJ, 40, .inr (.inl tlc))), (tqL, .inl (cyJ, 7, .inr (.inl tlast))), (tqW, .inl (cyC, 40, .inl twd)), (tqO, .inl (cyI, 5, .inl topn))]) [0, 1, 2, 3, 4, 5, 6] (by decide) rfl
                exact W.vret hx hb hr (fun t ht hW => ⟨⟨(), rfl, trivial, by rw [ht]; exact hP9, hD9⟩, hS.F ht⟩) hS.2.2 dX4_complete_88
  exact L5 100000 (-101 : Int64) s.heap _ ls h hP hD hS hl

def f_X4_away_L26 (tla : Nat → Int64) (tlb : Nat → Int64) (tlc : Nat → Int64) (p0 : Int32) (p1 : Int64) (v1 : Int64) (v3 : Int64) (k15 : Int64 → Option (Int64 × Int64 × Int64 × Int64 × Int64 × Int64 × Int64)) : Nat → Int64 → Option (Int64 × Int64 × Int64 × Int64 × Int64 × Int64 × Int64)
  | 0, _ => none
  | n + 1, v6 =>
    if v1 < v6 then
      dm_let (v3 + (1 : Int64)) fun x8 =>
      k15 x8
    else
      if v3 = v1 then
        dm_b1 (f_X4_common v3 v6) fun r10 =>
        if r10 = (1 : Int64) then
          dm_g (¬ (p0 < 0 ∨ 40 ≤ (p0).toNatClampNeg)) <|
          dm_g (¬ (p0 < 0 ∨ 40 ≤ (p0).toNatClampNeg)) <|
          dm_g (¬ (p0 < 0 ∨ 40 ≤ (p0).toNatClampNeg)) <|
          dm_b1 (f_X4_common (((((tla (p0).toNatClampNeg) * v3) * v3) + (((tlb (p0).toNatClampNeg) * v3) * v6)) + (((tlc (p0).toNatClampNeg) * v6) * v6)) p1) fun r16 =>
          if r16 = (1 : Int64) then
            dm_g (¬ (p0 < 0 ∨ 40 ≤ (p0).toNatClampNeg)) <|
            dm_g (¬ (p0 < 0 ∨ 40 ≤ (p0).toNatClampNeg)) <|
            dm_g (¬ (p0 < 0 ∨ 40 ≤ (p0).toNatClampNeg)) <|
            dm_b7 (f_X4_begin (tla (p0).toNatClampNeg) (tlb (p0).toNatClampNeg) (tlc (p0).toNatClampNeg)) fun w22 w23 w24 w25 w26 w27 w28 =>
            dm_b7 (f_X4_complete w22 w23 w24 w25 w26 w27 w28 v3 v6) fun w30 w31 w32 w33 w34 w35 w36 =>
            some (w30, w31, w32, w33, w34, w35, w36)
          else
            dm_let (v6 + (1 : Int64)) fun x38 =>
            f_X4_away_L26 tla tlb tlc p0 p1 v1 v3 k15 n x38
        else
          dm_let (v6 + (1 : Int64)) fun x39 =>
          f_X4_away_L26 tla tlb tlc p0 p1 v1 v3 k15 n x39
      else
        if v6 = v1 then
          dm_b1 (f_X4_common v3 v6) fun r42 =>
          if r42 = (1 : Int64) then
            dm_g (¬ (p0 < 0 ∨ 40 ≤ (p0).toNatClampNeg)) <|
            dm_g (¬ (p0 < 0 ∨ 40 ≤ (p0).toNatClampNeg)) <|
            dm_g (¬ (p0 < 0 ∨ 40 ≤ (p0).toNatClampNeg)) <|
            dm_b1 (f_X4_common (((((tla (p0).toNatClampNeg) * v3) * v3) + (((tlb (p0).toNatClampNeg) * v3) * v6)) + (((tlc (p0).toNatClampNeg) * v6) * v6)) p1) fun r48 =>
            if r48 = (1 : Int64) then
              dm_g (¬ (p0 < 0 ∨ 40 ≤ (p0).toNatClampNeg)) <|
              dm_g (¬ (p0 < 0 ∨ 40 ≤ (p0).toNatClampNeg)) <|
              dm_g (¬ (p0 < 0 ∨ 40 ≤ (p0).toNatClampNeg)) <|
              dm_b7 (f_X4_begin (tla (p0).toNatClampNeg) (tlb (p0).toNatClampNeg) (tlc (p0).toNatClampNeg)) fun w54 w55 w56 w57 w58 w59 w60 =>
              dm_b7 (f_X4_complete w54 w55 w56 w57 w58 w59 w60 v3 v6) fun w62 w63 w64 w65 w66 w67 w68 =>
              some (w62, w63, w64, w65, w66, w67, w68)
            else
              dm_let (v6 + (1 : Int64)) fun x70 =>
              f_X4_away_L26 tla tlb tlc p0 p1 v1 v3 k15 n x70
          else
            dm_let (v6 + (1 : Int64)) fun x71 =>
            f_X4_away_L26 tla tlb tlc p0 p1 v1 v3 k15 n x71
        else
          dm_let (v6 + (1 : Int64)) fun x41 =>
          f_X4_away_L26 tla tlb tlc p0 p1 v1 v3 k15 n x41
def f_X4_away_L15 (tla : Nat → Int64) (tlb : Nat → Int64) (tlc : Nat → Int64) (p0 : Int32) (p1 : Int64) (v1 : Int64) (k3 : Int64 → Option (Int64 × Int64 × Int64 × Int64 × Int64 × Int64 × Int64)) : Nat → Int64 → Option (Int64 × Int64 × Int64 × Int64 × Int64 × Int64 × Int64)
  | 0, _ => none
  | n + 1, v3 =>
    if v1 < v3 then
      dm_let (v1 + (1 : Int64)) fun x5 =>
      k3 x5
    else
      f_X4_away_L26 tla tlb tlc p0 p1 v1 v3 (fun o0 => f_X4_away_L15 tla tlb tlc p0 p1 v1 k3 n o0) 100000 (0 : Int64)
def f_X4_away_L3 (tla : Nat → Int64) (tlb : Nat → Int64) (tlc : Nat → Int64) (ta : Int64) (tb : Int64) (tc : Int64) (tp : Int64) (tq : Int64) (tr : Int64) (ts : Int64) (p0 : Int32) (p1 : Int64)  : Nat → Int64 → Option (Int64 × Int64 × Int64 × Int64 × Int64 × Int64 × Int64)
  | 0, _ => none
  | n + 1, v1 =>
    if (100 : Int64) ≤ v1 then
      some (ta, tb, tc, tp, tq, tr, ts)
    else
      f_X4_away_L15 tla tlb tlc p0 p1 v1 (fun o0 => f_X4_away_L3 tla tlb tlc ta tb tc tp tq tr ts p0 p1 n o0) 100000 (0 : Int64)
def f_X4_away (tla : Nat → Int64) (tlb : Nat → Int64) (tlc : Nat → Int64) (ta : Int64) (tb : Int64) (tc : Int64) (tp : Int64) (tq : Int64) (tr : Int64) (ts : Int64) (p0 : Int32) (p1 : Int64) : Option (Int64 × Int64 × Int64 × Int64 × Int64 × Int64 × Int64) :=
  f_X4_away_L3 tla tlb tlc ta tb tc tp tq tr ts p0 p1 100000 (1 : Int64)
set_option maxHeartbeats 4000000 in
set_option maxRecDepth 100000 in
theorem c_X4_away (l : Launch) (dC : Nat → ClassId) (dI : Nat → Nat → Nat) (cyI cyJ cyC : ClassId) (th tqA tqB tqC tqL tqW tqO : Nat) (sz : Nat) (tthr : Int32) (tdd : Int32) (tn : Int32) (tla : Nat → Int64) (tlb : Nat → Int64) (tlc : Nat → Int64) (ta : Int64) (tb : Int64) (tc : Int64) (tp : Int64) (tq : Int64) (tr : Int64) (ts : Int64) (tsome : Int32) (tlast : Nat → Int64) (tlet : Int32) (twd : Nat → Int32) (topn : Nat → Int32) (p0 : Int32) (p1 : Int64) (ta' : Int64) (tb' : Int64) (tc' : Int64) (tp' : Int64) (tq' : Int64) (tr' : Int64) (ts' : Int64) (hf : f_X4_away tla tlb tlc ta tb tc tp tq tr ts p0 p1 = some (ta', tb', tc', tp', tq', tr', ts')) : Met l yX4_away wsX4_away { frames := 2, cells := 0, slots := 0, locals := 63 } (va_Pc [.ref th, .int p0, .long p1] (mc_Pre (dC, dI) (mc_tys cyI cyJ cyC) [(th, .inr (4, [.int tthr, .int tdd, .int tn, .ref tqA, .ref tqB, .ref tqC, .long ta, .long tb, .long tc, .long tp, .long tq, .long tr, .long ts, .int tsome, .ref tqL, .int tlet, .ref tqW, .ref tqO])), (tqA, .inl (cyJ, 40, .inr (.inl tla))), (tqB, .inl (cyJ, 40, .inr (.inl tlb))), (tqC, .inl (cyJ, 40, .inr (.inl tlc))), (tqL, .inl (cyJ, 7, .inr (.inl tlast))), (tqW, .inl (cyC, 40, .inl twd)), (tqO, .inl (cyI, 5, .inl topn))] sz)) (va_Qv (fun _ : Unit => True) (fun _ t => mc_Post (dC, dI) (va_A [(th, .inr (4, [.int tthr, .int tdd, .int tn, .ref tqA, .ref tqB, .ref tqC, .long ta, .long tb, .long tc, .long tp, .long tq, .long tr, .long ts, .int tsome, .ref tqL, .int tlet, .ref tqW, .ref tqO])), (tqA, .inl (cyJ, 40, .inr (.inl tla))), (tqB, .inl (cyJ, 40, .inr (.inl tlb))), (tqC, .inl (cyJ, 40, .inr (.inl tlc))), (tqL, .inl (cyJ, 7, .inr (.inl tlast))), (tqW, .inl (cyC, 40, .inl twd)), (tqO, .inl (cyI, 5, .inl topn))] sz) [(th, .inr (4, [.int tthr, .int tdd, .int tn, .ref tqA, .ref tqB, .ref tqC, .long ta', .long tb', .long tc', .long tp', .long tq', .long tr', .long ts', .int tsome, .ref tqL, .int tlet, .ref tqW, .ref tqO])), (tqA, .inl (cyJ, 40, .inr (.inl tla))), (tqB, .inl (cyJ, 40, .inr (.inl tlb))), (tqC, .inl (cyJ, 40, .inr (.inl tlc))), (tqL, .inl (cyJ, 7, .inr (.inl tlast))), (tqW, .inl (cyC, 40, .inl twd)), (tqO, .inl (cyI, 5, .inl topn))] t) (va_A [(th, .inr (4, [.int tthr, .int tdd, .int tn, .ref tqA, .ref tqB, .ref tqC, .long ta, .long tb, .long tc, .long tp, .long tq, .long tr, .long ts, .int tsome, .ref tqL, .int tlet, .ref tqW, .ref tqO])), (tqA, .inl (cyJ, 40, .inr (.inl tla))), (tqB, .inl (cyJ, 40, .inr (.inl tlb))), (tqC, .inl (cyJ, 40, .inr (.inl tlc))), (tqL, .inl (cyJ, 7, .inr (.inl tlast))), (tqW, .inl (cyC, 40, .inl twd)), (tqO, .inl (cyI, 5, .inl topn))] sz)) 0 0 (va_A [(th, .inr (4, [.int tthr, .int tdd, .int tn, .ref tqA, .ref tqB, .ref tqC, .long ta, .long tb, .long tc, .long tp, .long tq, .long tr, .long ts, .int tsome, .ref tqL, .int tlet, .ref tqW, .ref tqO])), (tqA, .inl (cyJ, 40, .inr (.inl tla))), (tqB, .inl (cyJ, 40, .inr (.inl tlb))), (tqC, .inl (cyJ, 40, .inr (.inl tlc))), (tqL, .inl (cyJ, 7, .inr (.inl tlast))), (tqW, .inl (cyC, 40, .inl twd)), (tqO, .inl (cyI, 5, .inl topn))] sz) := by
  refine Met.ofW (cc := cX4_away) (maxL := 10) (ret := none) (by decide +kernel) rfl ?_
  intro p e s m args below meth c s₁ B hml hv
  obtain ⟨rfl, hsz, hP, hK, hD0, hnw⟩ := hv
  have hx := B.exec
  have hb := B.bytes
  have hr := B.returns
  have hts := atoms_spec (ws := wsX4_away) B.pre
  have hown : s.vm.findClass RX4 = some m.cls := findClass_of_methodNamed B.named
  have hlocks := B.notSynchronized
  have hinX4 : ∀ w ∈ wsX40, w ∈ wsX4_away := by decide +kernel
  subst hsz
  have hD := hD0.self (sz := s.heap.size)
  generalize hAe : va_A [(th, .inr (4, [.int tthr, .int tdd, .int tn, .ref tqA, .ref tqB, .ref tqC, .long ta, .long tb, .long tc, .long tp, .long tq, .long tr, .long ts, .int tsome, .ref tqL, .int tlet, .ref tqW, .ref tqO])), (tqA, .inl (cyJ, 40, .inr (.inl tla))), (tqB, .inl (cyJ, 40, .inr (.inl tlb))), (tqC, .inl (cyJ, 40, .inr (.inl tlc))), (tqL, .inl (cyJ, 7, .inr (.inl tlast))), (tqW, .inl (cyC, 40, .inl twd)), (tqO, .inl (cyI, 5, .inl topn))] s.heap.size = A at hD ⊢
  have hA : ∀ q : Nat, s.heap.size ≤ q → A q := fun q h => by rw [← hAe]; exact Or.inr h
  have hS : va_S A s.heap s.heap [] := va_S.rf
  have hP : va_P (dC, dI) vwCl [(th, .inr (4, [.int tthr, .int tdd, .int tn, .ref tqA, .ref tqB, .ref tqC, .long ta, .long tb, .long tc, .long tp, .long tq, .long tr, .long ts, .int tsome, .ref tqL, .int tlet, .ref tqW, .ref tqO])), (tqA, .inl (cyJ, 40, .inr (.inl tla))), (tqB, .inl (cyJ, 40, .inr (.inl tlb))), (tqC, .inl (cyJ, 40, .inr (.inl tlc))), (tqL, .inl (cyJ, 7, .inr (.inl tlast))), (tqW, .inl (cyC, 40, .inl twd)), (tqO, .inl (cyI, 5, .inl topn))] s.heap := hP
  have hl := lv_entry ([.ref th, .int p0, .long p1]) (n := 10) (Nat.le_of_ble_eq_true rfl)
  rw [lg_entry_eq]
  generalize (lg_sl ([.ref th, .int p0, .long p1]) ++ List.replicate (10 - (lg_sl ([.ref th, .int p0, .long p1])).length) Slot.unset).toArray = ls at hl ⊢
  have hl : lv_has ls 10 [(0, .ref th), (1, .int p0), (2, .long p1)] := hl
  obtain ⟨QQ, hQQ⟩ : ∃ Q, Q = MQ below (va_Qv (fun _ : Unit => True) (fun _ t => mc_Post (dC, dI) A [(th, .inr (4, [.int tthr, .int tdd, .int tn, .ref tqA, .ref tqB, .ref tqC, .long ta', .long tb', .long tc', .long tp', .long tq', .long tr', .long ts', .int tsome, .ref tqL, .int tlet, .ref tqW, .ref tqO])), (tqA, .inl (cyJ, 40, .inr (.inl tla))), (tqB, .inl (cyJ, 40, .inr (.inl tlb))), (tqC, .inl (cyJ, 40, .inr (.inl tlc))), (tqL, .inl (cyJ, 7, .inr (.inl tlast))), (tqW, .inl (cyC, 40, .inl twd)), (tqO, .inl (cyI, 5, .inl topn))] t) A) ([Value.ref th, Value.int p0, Value.long p1] : List Value).toArray s 0 0 A := ⟨_, rfl⟩
  rw [← hQQ]
  have h := hf
  unfold f_X4_away at h
  refine lv_lconst (v := 1) hx hb dX4_away_0 (by decide) ?_
  refine lv_lstore (lv' := [(4, .long (1 : Int64)), (0, .ref th), (1, .int p0), (2, .long p1)]) hx hb dX4_away_1 hl (by decide) rfl (fun ls hl => ?_)
  have L3 : ∀ (n3 : Nat) (v1 : Int64) (H : Heap) (locs : List Loc) (ls : Array Slot), f_X4_away_L3 tla tlb tlc ta tb tc tp tq tr ts p0 p1 n3 v1 = some (ta', tb', tc', tp', tq', tr', ts') → va_P (dC, dI) vwCl [(th, .inr (4, [.int tthr, .int tdd, .int tn, .ref tqA, .ref tqB, .ref tqC, .long ta, .long tb, .long tc, .long tp, .long tq, .long tr, .long ts, .int tsome, .ref tqL, .int tlet, .ref tqW, .ref tqO])), (tqA, .inl (cyJ, 40, .inr (.inl tla))), (tqB, .inl (cyJ, 40, .inr (.inl tlb))), (tqC, .inl (cyJ, 40, .inr (.inl tlc))), (tqL, .inl (cyJ, 7, .inr (.inl tlast))), (tqW, .inl (cyC, 40, .inl twd)), (tqO, .inl (cyI, 5, .inl topn))] H → va_D A [(th, .inr (4, [.int tthr, .int tdd, .int tn, .ref tqA, .ref tqB, .ref tqC, .long ta, .long tb, .long tc, .long tp, .long tq, .long tr, .long ts, .int tsome, .ref tqL, .int tlet, .ref tqW, .ref tqO])), (tqA, .inl (cyJ, 40, .inr (.inl tla))), (tqB, .inl (cyJ, 40, .inr (.inl tlb))), (tqC, .inl (cyJ, 40, .inr (.inl tlc))), (tqL, .inl (cyJ, 7, .inr (.inl tlast))), (tqW, .inl (cyC, 40, .inl twd)), (tqO, .inl (cyI, 5, .inl topn))] → va_S A s.heap H locs → lv_has ls 10 [(4, .long v1), (0, .ref th), (1, .int p0), (2, .long p1)] → W p l e (headSpec wsX4_away { frames := 2, cells := 0, slots := 0, locals := 63 }).room s m ([Value.ref th, Value.int p0, Value.long p1] : List Value).toArray below meth c H locs 0 0 QQ (F0 m 3 ls []) := by
    intro n3
    induction n3 with
    | zero =>
      intro v1 H locs ls h
      exact nomatch (show (none : Option (Int64 × Int64 × Int64 × Int64 × Int64 × Int64 × Int64)) = some _ from h)
    | succ n3 ih3 =>
      intro v1 H locs ls h hP hD hS hl
      rw [f_X4_away_L3] at h
      refine lv_lload hx hb dX4_away_3 (lv_at hl 0 rfl) ?_
      refine lv_ldc2 (v := 100) hx hb hown (hts (.constantLong RX4 122 (100)) (by decide +kernel)) dX4_away_5 ?_
      refine mc_lif_ge (tgt := 173) hx hb dX4_away_8 dX4_away_9 (by decide) (fun hc2 => ?_) (fun hc2 => ?_)
      · have h := dm_t hc2 h
        obtain ⟨hE0, hE1, hE2, hE3, hE4, hE5, hE6⟩ := dm_i7 h
        subst hE0; subst hE1; subst hE2; subst hE3; subst hE4; subst hE5; subst hE6
        rw [hQQ]
        have hP9 := hP.sub (ws' := [(th, .inr (4, [.int tthr, .int tdd, .int tn, .ref tqA, .ref tqB, .ref tqC, .long ta, .long tb, .long tc, .long tp, .long tq, .long tr, .long ts, .int tsome, .ref tqL, .int tlet, .ref tqW, .ref tqO])), (tqA, .inl (cyJ, 40, .inr (.inl tla))), (tqB, .inl (cyJ, 40, .inr (.inl tlb))), (tqC, .inl (cyJ, 40, .inr (.inl tlc))), (tqL, .inl (cyJ, 7, .inr (.inl tlast))), (tqW, .inl (cyC, 40, .inl twd)), (tqO, .inl (cyI, 5, .inl topn))]) [0, 1, 2, 3, 4, 5, 6] rfl
        have hD9 := hD.sub (ws' := [(th, .inr (4, [.int tthr, .int tdd, .int tn, .ref tqA, .ref tqB, .ref tqC, .long ta, .long tb, .long tc, .long tp, .long tq, .long tr, .long ts, .int tsome, .ref tqL, .int tlet, .ref tqW, .ref tqO])), (tqA, .inl (cyJ, 40, .inr (.inl tla))), (tqB, .inl (cyJ, 40, .inr (.inl tlb))), (tqC, .inl (cyJ, 40, .inr (.inl tlc))), (tqL, .inl (cyJ, 7, .inr (.inl tlast))), (tqW, .inl (cyC, 40, .inl twd)), (tqO, .inl (cyI, 5, .inl topn))]) [0, 1, 2, 3, 4, 5, 6] (by decide) rfl
        exact W.vret hx hb hr (fun t ht hW => ⟨⟨(), rfl, trivial, by rw [ht]; exact hP9, hD9⟩, hS.F ht⟩) hS.2.2 dX4_away_173
      · have h := dm_f hc2 h
        refine lv_lconst (v := 0) hx hb dX4_away_12 (by decide) ?_
        refine lv_lstore (lv' := [(6, .long (0 : Int64)), (4, .long v1), (0, .ref th), (1, .int p0), (2, .long p1)]) hx hb dX4_away_13 hl (by decide) rfl (fun ls hl => ?_)
        have L15 : ∀ (n15 : Nat) (v3 : Int64) (H : Heap) (locs : List Loc) (ls : Array Slot), f_X4_away_L15 tla tlb tlc p0 p1 v1 (fun o0 => f_X4_away_L3 tla tlb tlc ta tb tc tp tq tr ts p0 p1 n3 o0) n15 v3 = some (ta', tb', tc', tp', tq', tr', ts') → va_P (dC, dI) vwCl [(th, .inr (4, [.int tthr, .int tdd, .int tn, .ref tqA, .ref tqB, .ref tqC, .long ta, .long tb, .long tc, .long tp, .long tq, .long tr, .long ts, .int tsome, .ref tqL, .int tlet, .ref tqW, .ref tqO])), (tqA, .inl (cyJ, 40, .inr (.inl tla))), (tqB, .inl (cyJ, 40, .inr (.inl tlb))), (tqC, .inl (cyJ, 40, .inr (.inl tlc))), (tqL, .inl (cyJ, 7, .inr (.inl tlast))), (tqW, .inl (cyC, 40, .inl twd)), (tqO, .inl (cyI, 5, .inl topn))] H → va_D A [(th, .inr (4, [.int tthr, .int tdd, .int tn, .ref tqA, .ref tqB, .ref tqC, .long ta, .long tb, .long tc, .long tp, .long tq, .long tr, .long ts, .int tsome, .ref tqL, .int tlet, .ref tqW, .ref tqO])), (tqA, .inl (cyJ, 40, .inr (.inl tla))), (tqB, .inl (cyJ, 40, .inr (.inl tlb))), (tqC, .inl (cyJ, 40, .inr (.inl tlc))), (tqL, .inl (cyJ, 7, .inr (.inl tlast))), (tqW, .inl (cyC, 40, .inl twd)), (tqO, .inl (cyI, 5, .inl topn))] → va_S A s.heap H locs → lv_has ls 10 [(6, .long v3), (4, .long v1), (0, .ref th), (1, .int p0), (2, .long p1)] → W p l e (headSpec wsX4_away { frames := 2, cells := 0, slots := 0, locals := 63 }).room s m ([Value.ref th, Value.int p0, Value.long p1] : List Value).toArray below meth c H locs 0 0 QQ (F0 m 15 ls []) := by
          intro n15
          induction n15 with
          | zero =>
            intro v3 H locs ls h
            exact nomatch (show (none : Option (Int64 × Int64 × Int64 × Int64 × Int64 × Int64 × Int64)) = some _ from h)
          | succ n15 ih15 =>
            intro v3 H locs ls h hP hD hS hl
            rw [f_X4_away_L15] at h
            refine lv_lload hx hb dX4_away_15 (lv_at hl 0 rfl) ?_
            refine lv_lload hx hb dX4_away_17 (lv_at hl 1 rfl) ?_
            refine mc_lif_gt (tgt := 164) hx hb dX4_away_19 dX4_away_20 (by decide) (fun hc4 => ?_) (fun hc4 => ?_)
            · have h := dm_t hc4 h
              refine lv_lload hx hb dX4_away_164 (lv_at hl 1 rfl) ?_
              refine lv_lconst (v := 1) hx hb dX4_away_166 (by decide) ?_
              refine lv_ladd hx hb dX4_away_167 ?_
              refine lv_topl (fun x5 ex5 => ?_)
              have h := dm_lu ex5 h
              refine lv_lstore (lv' := [(4, .long x5), (6, .long v3), (0, .ref th), (1, .int p0), (2, .long p1)]) hx hb dX4_away_168 hl (by decide) rfl (fun ls hl => ?_)
              refine lv_goto (tgt := 3) hx hb dX4_away_170 (by decide) ?_
              exact ih3 x5 H _ ls h (hP.sub [0, 1, 2, 3, 4, 5, 6] rfl) (hD.sub [0, 1, 2, 3, 4, 5, 6] (by decide) rfl) hS (lv_sub hl [0, 2, 3, 4] rfl)
            · have h := dm_f hc4 h
              refine lv_lconst (v := 0) hx hb dX4_away_23 (by decide) ?_
              refine lv_lstore (lv' := [(8, .long (0 : Int64)), (6, .long v3), (4, .long v1), (0, .ref th), (1, .int p0), (2, .long p1)]) hx hb dX4_away_24 hl (by decide) rfl (fun ls hl => ?_)
              have L26 : ∀ (n26 : Nat) (v6 : Int64) (H : Heap) (locs : List Loc) (ls : Array Slot), f_X4_away_L26 tla tlb tlc p0 p1 v1 v3 (fun o0 => f_X4_away_L15 tla tlb tlc p0 p1 v1 (fun o0 => f_X4_away_L3 tla tlb tlc ta tb tc tp tq tr ts p0 p1 n3 o0) n15 o0) n26 v6 = some (ta', tb', tc', tp', tq', tr', ts') → va_P (dC, dI) vwCl [(th, .inr (4, [.int tthr, .int tdd, .int tn, .ref tqA, .ref tqB, .ref tqC, .long ta, .long tb, .long tc, .long tp, .long tq, .long tr, .long ts, .int tsome, .ref tqL, .int tlet, .ref tqW, .ref tqO])), (tqA, .inl (cyJ, 40, .inr (.inl tla))), (tqB, .inl (cyJ, 40, .inr (.inl tlb))), (tqC, .inl (cyJ, 40, .inr (.inl tlc))), (tqL, .inl (cyJ, 7, .inr (.inl tlast))), (tqW, .inl (cyC, 40, .inl twd)), (tqO, .inl (cyI, 5, .inl topn))] H → va_D A [(th, .inr (4, [.int tthr, .int tdd, .int tn, .ref tqA, .ref tqB, .ref tqC, .long ta, .long tb, .long tc, .long tp, .long tq, .long tr, .long ts, .int tsome, .ref tqL, .int tlet, .ref tqW, .ref tqO])), (tqA, .inl (cyJ, 40, .inr (.inl tla))), (tqB, .inl (cyJ, 40, .inr (.inl tlb))), (tqC, .inl (cyJ, 40, .inr (.inl tlc))), (tqL, .inl (cyJ, 7, .inr (.inl tlast))), (tqW, .inl (cyC, 40, .inl twd)), (tqO, .inl (cyI, 5, .inl topn))] → va_S A s.heap H locs → lv_has ls 10 [(8, .long v6), (6, .long v3), (4, .long v1), (0, .ref th), (1, .int p0), (2, .long p1)] → W p l e (headSpec wsX4_away { frames := 2, cells := 0, slots := 0, locals := 63 }).room s m ([Value.ref th, Value.int p0, Value.long p1] : List Value).toArray below meth c H locs 0 0 QQ (F0 m 26 ls []) := by
                intro n26
                induction n26 with
                | zero =>
                  intro v6 H locs ls h
                  exact nomatch (show (none : Option (Int64 × Int64 × Int64 × Int64 × Int64 × Int64 × Int64)) = some _ from h)
                | succ n26 ih26 =>
                  intro v6 H locs ls h hP hD hS hl
                  rw [f_X4_away_L26] at h
                  refine lv_lload hx hb dX4_away_26 (lv_at hl 0 rfl) ?_
                  refine lv_lload hx hb dX4_away_28 (lv_at hl 2 rfl) ?_
                  refine mc_lif_gt (tgt := 155) hx hb dX4_away_30 dX4_away_31 (by decide) (fun hc7 => ?_) (fun hc7 => ?_)
                  · have h := dm_t hc7 h
                    refine lv_lload hx hb dX4_away_155 (lv_at hl 1 rfl) ?_
                    refine lv_lconst (v := 1) hx hb dX4_away_157 (by decide) ?_
                    refine lv_ladd hx hb dX4_away_158 ?_
                    refine lv_topl (fun x8 ex8 => ?_)
                    have h := dm_lu ex8 h
                    refine lv_lstore (lv' := [(6, .long x8), (8, .long v6), (4, .long v1), (0, .ref th), (1, .int p0), (2, .long p1)]) hx hb dX4_away_159 hl (by decide) rfl (fun ls hl => ?_)
                    refine lv_goto (tgt := 15) hx hb dX4_away_161 (by decide) ?_
                    exact ih15 x8 H _ ls h (hP.sub [0, 1, 2, 3, 4, 5, 6] rfl) (hD.sub [0, 1, 2, 3, 4, 5, 6] (by decide) rfl) hS (lv_sub hl [0, 2, 3, 4, 5] rfl)
                  · have h := dm_f hc7 h
                    refine lv_lload hx hb dX4_away_34 (lv_at hl 1 rfl) ?_
                    refine lv_lload hx hb dX4_away_36 (lv_at hl 2 rfl) ?_
                    refine mc_lif_eq (tgt := 50) hx hb dX4_away_38 dX4_away_39 (by decide) (fun hc9 => ?_) (fun hc9 => ?_)
                    · have h := dm_t hc9 h
                      refine lv_lload hx hb dX4_away_50 (lv_at hl 1 rfl) ?_
                      refine lv_lload hx hb dX4_away_52 (lv_at hl 0 rfl) ?_
                      obtain ⟨r10, hk11, h⟩ := dm_b1s h
                      refine mc_l (wr := [(th, .inr (4, [.int tthr, .int tdd, .int tn, .ref tqA, .ref tqB, .ref tqC, .long ta, .long tb, .long tc, .long tp, .long tq, .long tr, .long ts, .int tsome, .ref tqL, .int tlet, .ref tqW, .ref tqO])), (tqA, .inl (cyJ, 40, .inr (.inl tla))), (tqB, .inl (cyJ, 40, .inr (.inl tlb))), (tqC, .inl (cyJ, 40, .inr (.inl tlc))), (tqL, .inl (cyJ, 7, .inr (.inl tlast))), (tqW, .inl (cyC, 40, .inl twd)), (tqO, .inl (cyI, 5, .inl topn))]) (va_runS (As := [.long v3, .long v6]) (rest := []) ⟨hx, hb, hml, hown, hts⟩ (c_X4_common l dC dI cyI cyJ cyC H.size v3 v6 r10 hk11) (va_cwS 2 hts gX4_away_X4_common rfl rfl rfl (by decide +kernel) ⟨(Nat.le_of_ble_eq_true rfl), (Nat.le_of_ble_eq_true rfl)⟩) (mc_preS hK (hP.sub (ws' := []) [] rfl) (hD.sub (ws' := []) [] (by decide) rfl) hnw) rfl rfl hl.1 rfl (lv_room (Nat.le_of_ble_eq_true rfl)) dX4_away_54 ⟨Nat.zero_le _, Nat.zero_le _⟩) hP hD hS hA [] [0, 1, 2, 3, 4, 5, 6] rfl rfl rfl (by decide) (fun H locs hP hD hS => ?_)
                      have hP : va_P (dC, dI) vwCl [(th, .inr (4, [.int tthr, .int tdd, .int tn, .ref tqA, .ref tqB, .ref tqC, .long ta, .long tb, .long tc, .long tp, .long tq, .long tr, .long ts, .int tsome, .ref tqL, .int tlet, .ref tqW, .ref tqO])), (tqA, .inl (cyJ, 40, .inr (.inl tla))), (tqB, .inl (cyJ, 40, .inr (.inl tlb))), (tqC, .inl (cyJ, 40, .inr (.inl tlc))), (tqL, .inl (cyJ, 7, .inr (.inl tlast))), (tqW, .inl (cyC, 40, .inl twd)), (tqO, .inl (cyI, 5, .inl topn))] H := hP
                      have hD : va_D A [(th, .inr (4, [.int tthr, .int tdd, .int tn, .ref tqA, .ref tqB, .ref tqC, .long ta, .long tb, .long tc, .long tp, .long tq, .long tr, .long ts, .int tsome, .ref tqL, .int tlet, .ref tqW, .ref tqO])), (tqA, .inl (cyJ, 40, .inr (.inl tla))), (tqB, .inl (cyJ, 40, .inr (.inl tlb))), (tqC, .inl (cyJ, 40, .inr (.inl tlc))), (tqL, .inl (cyJ, 7, .inr (.inl tlast))), (tqW, .inl (cyC, 40, .inl twd)), (tqO, .inl (cyI, 5, .inl topn))] := hD
                      refine lv_lconst (v := 1) hx hb dX4_away_57 (by decide) ?_
                      refine mc_lif_eq (tgt := 65) hx hb dX4_away_58 dX4_away_59 (by decide) (fun hc12 => ?_) (fun hc12 => ?_)
                      · have h := dm_t hc12 h
                        refine lv_aload_n hx hb dX4_away_65 rfl (lv_at hl 3 rfl) ?_
                        refine va_get (D := (dC, dI)) (ci := 4) (v := .ref tqA) (C := RX4) (T := TX4) (N := 18) hx hb hts hinX4 hown hK hP 0 rfl rfl 3 (by decide) (hts (.fieldLink RX4 13 "FormDeskModel" "listA" "[J") (by decide +kernel)) (fun _ h9 => h9) rfl dX4_away_66 ?_
                        refine lv_iload_n hx hb dX4_away_69 rfl (lv_at hl 4 rfl) ?_
                        obtain ⟨hn13, h⟩ := dm_gs h
                        refine va_lald hx hb hK hP 1 1 rfl rfl hn13 dX4_away_70 ?_
                        refine lv_lload hx hb dX4_away_71 (lv_at hl 1 rfl) ?_
                        refine lv_lmul hx hb dX4_away_73 ?_
                        refine lv_lload hx hb dX4_away_74 (lv_at hl 1 rfl) ?_
                        refine lv_lmul hx hb dX4_away_76 ?_
                        refine lv_aload_n hx hb dX4_away_77 rfl (lv_at hl 3 rfl) ?_
                        refine va_get (D := (dC, dI)) (ci := 4) (v := .ref tqB) (C := RX4) (T := TX4) (N := 18) hx hb hts hinX4 hown hK hP 0 rfl rfl 4 (by decide) (hts (.fieldLink RX4 17 "FormDeskModel" "listB" "[J") (by decide +kernel)) (fun _ h9 => h9) rfl dX4_away_78 ?_
                        refine lv_iload_n hx hb dX4_away_81 rfl (lv_at hl 4 rfl) ?_
                        obtain ⟨hn14, h⟩ := dm_gs h
                        refine va_lald hx hb hK hP 2 1 rfl rfl hn14 dX4_away_82 ?_
                        refine lv_lload hx hb dX4_away_83 (lv_at hl 1 rfl) ?_
                        refine lv_lmul hx hb dX4_away_85 ?_
                        refine lv_lload hx hb dX4_away_86 (lv_at hl 0 rfl) ?_
                        refine lv_lmul hx hb dX4_away_88 ?_
                        refine lv_ladd hx hb dX4_away_89 ?_
                        refine lv_aload_n hx hb dX4_away_90 rfl (lv_at hl 3 rfl) ?_
                        refine va_get (D := (dC, dI)) (ci := 4) (v := .ref tqC) (C := RX4) (T := TX4) (N := 18) hx hb hts hinX4 hown hK hP 0 rfl rfl 5 (by decide) (hts (.fieldLink RX4 20 "FormDeskModel" "listC" "[J") (by decide +kernel)) (fun _ h9 => h9) rfl dX4_away_91 ?_
                        refine lv_iload_n hx hb dX4_away_94 rfl (lv_at hl 4 rfl) ?_
                        obtain ⟨hn15, h⟩ := dm_gs h
                        refine va_lald hx hb hK hP 3 1 rfl rfl hn15 dX4_away_95 ?_
                        refine lv_lload hx hb dX4_away_96 (lv_at hl 0 rfl) ?_
                        refine lv_lmul hx hb dX4_away_98 ?_
                        refine lv_lload hx hb dX4_away_99 (lv_at hl 0 rfl) ?_
                        refine lv_lmul hx hb dX4_away_101 ?_
                        refine lv_ladd hx hb dX4_away_102 ?_
                        refine lv_lload_n hx hb dX4_away_103 rfl (lv_at hl 5 rfl) ?_
                        obtain ⟨r16, hk17, h⟩ := dm_b1s h
                        refine mc_l (wr := [(th, .inr (4, [.int tthr, .int tdd, .int tn, .ref tqA, .ref tqB, .ref tqC, .long ta, .long tb, .long tc, .long tp, .long tq, .long tr, .long ts, .int tsome, .ref tqL, .int tlet, .ref tqW, .ref tqO])), (tqA, .inl (cyJ, 40, .inr (.inl tla))), (tqB, .inl (cyJ, 40, .inr (.inl tlb))), (tqC, .inl (cyJ, 40, .inr (.inl tlc))), (tqL, .inl (cyJ, 7, .inr (.inl tlast))), (tqW, .inl (cyC, 40, .inl twd)), (tqO, .inl (cyI, 5, .inl topn))]) (va_runS (As := [.long (((((tla (p0).toNatClampNeg) * v3) * v3) + (((tlb (p0).toNatClampNeg) * v3) * v6)) + (((tlc (p0).toNatClampNeg) * v6) * v6)), .long p1]) (rest := []) ⟨hx, hb, hml, hown, hts⟩ (c_X4_common l dC dI cyI cyJ cyC H.size (((((tla (p0).toNatClampNeg) * v3) * v3) + (((tlb (p0).toNatClampNeg) * v3) * v6)) + (((tlc (p0).toNatClampNeg) * v6) * v6)) p1 r16 hk17) (va_cwS 2 hts gX4_away_X4_common rfl rfl rfl (by decide +kernel) ⟨(Nat.le_of_ble_eq_true rfl), (Nat.le_of_ble_eq_true rfl)⟩) (mc_preS hK (hP.sub (ws' := []) [] rfl) (hD.sub (ws' := []) [] (by decide) rfl) hnw) rfl rfl hl.1 rfl (lv_room (Nat.le_of_ble_eq_true rfl)) dX4_away_104 ⟨Nat.zero_le _, Nat.zero_le _⟩) hP hD hS hA [] [0, 1, 2, 3, 4, 5, 6] rfl rfl rfl (by decide) (fun H locs hP hD hS => ?_)
                        have hP : va_P (dC, dI) vwCl [(th, .inr (4, [.int tthr, .int tdd, .int tn, .ref tqA, .ref tqB, .ref tqC, .long ta, .long tb, .long tc, .long tp, .long tq, .long tr, .long ts, .int tsome, .ref tqL, .int tlet, .ref tqW, .ref tqO])), (tqA, .inl (cyJ, 40, .inr (.inl tla))), (tqB, .inl (cyJ, 40, .inr (.inl tlb))), (tqC, .inl (cyJ, 40, .inr (.inl tlc))), (tqL, .inl (cyJ, 7, .inr (.inl tlast))), (tqW, .inl (cyC, 40, .inl twd)), (tqO, .inl (cyI, 5, .inl topn))] H := hP
                        have hD : va_D A [(th, .inr (4, [.int tthr, .int tdd, .int tn, .ref tqA, .ref tqB, .ref tqC, .long ta, .long tb, .long tc, .long tp, .long tq, .long tr, .long ts, .int tsome, .ref tqL, .int tlet, .ref tqW, .ref tqO])), (tqA, .inl (cyJ, 40, .inr (.inl tla))), (tqB, .inl (cyJ, 40, .inr (.inl tlb))), (tqC, .inl (cyJ, 40, .inr (.inl tlc))), (tqL, .inl (cyJ, 7, .inr (.inl tlast))), (tqW, .inl (cyC, 40, .inl twd)), (tqO, .inl (cyI, 5, .inl topn))] := hD
                        refine lv_lconst (v := 1) hx hb dX4_away_107 (by decide) ?_
                        refine mc_lif_eq (tgt := 115) hx hb dX4_away_108 dX4_away_109 (by decide) (fun hc18 => ?_) (fun hc18 => ?_)
                        · have h := dm_t hc18 h
                          refine lv_aload_n hx hb dX4_away_115 rfl (lv_at hl 3 rfl) ?_
                          refine lv_aload_n hx hb dX4_away_116 rfl (lv_at hl 3 rfl) ?_
                          refine va_get (D := (dC, dI)) (ci := 4) (v := .ref tqA) (C := RX4) (T := TX4) (N := 18) hx hb hts hinX4 hown hK hP 0 rfl rfl 3 (by decide) (hts (.fieldLink RX4 13 "FormDeskModel" "listA" "[J") (by decide +kernel)) (fun _ h9 => h9) rfl dX4_away_117 ?_
                          refine lv_iload_n hx hb dX4_away_120 rfl (lv_at hl 4 rfl) ?_
                          obtain ⟨hn19, h⟩ := dm_gs h
                          refine va_lald hx hb hK hP 1 1 rfl rfl hn19 dX4_away_121 ?_
                          refine lv_aload_n hx hb dX4_away_122 rfl (lv_at hl 3 rfl) ?_
                          refine va_get (D := (dC, dI)) (ci := 4) (v := .ref tqB) (C := RX4) (T := TX4) (N := 18) hx hb hts hinX4 hown hK hP 0 rfl rfl 4 (by decide) (hts (.fieldLink RX4 17 "FormDeskModel" "listB" "[J") (by decide +kernel)) (fun _ h9 => h9) rfl dX4_away_123 ?_
                          refine lv_iload_n hx hb dX4_away_126 rfl (lv_at hl 4 rfl) ?_
                          obtain ⟨hn20, h⟩ := dm_gs h
                          refine va_lald hx hb hK hP 2 1 rfl rfl hn20 dX4_away_127 ?_
                          refine lv_aload_n hx hb dX4_away_128 rfl (lv_at hl 3 rfl) ?_
                          refine va_get (D := (dC, dI)) (ci := 4) (v := .ref tqC) (C := RX4) (T := TX4) (N := 18) hx hb hts hinX4 hown hK hP 0 rfl rfl 5 (by decide) (hts (.fieldLink RX4 20 "FormDeskModel" "listC" "[J") (by decide +kernel)) (fun _ h9 => h9) rfl dX4_away_129 ?_
                          refine lv_iload_n hx hb dX4_away_132 rfl (lv_at hl 4 rfl) ?_
                          obtain ⟨hn21, h⟩ := dm_gs h
                          refine va_lald hx hb hK hP 3 1 rfl rfl hn21 dX4_away_133 ?_
                          obtain ⟨w22, w23, w24, w25, w26, w27, w28, hk29, h⟩ := dm_b7s h
                          refine mc_v (wr := []) (va_runV (As := [.long (tla (p0).toNatClampNeg), .long (tlb (p0).toNatClampNeg), .long (tlc (p0).toNatClampNeg)]) (rest := []) ⟨hx, hb, hml, hown, hts⟩ (c_X4_begin l dC dI cyI cyJ cyC th tqA tqB tqC tqL tqW tqO H.size tthr tdd tn tla tlb tlc ta tb tc tp tq tr ts tsome tlast tlet twd topn (tla (p0).toNatClampNeg) (tlb (p0).toNatClampNeg) (tlc (p0).toNatClampNeg) w22 w23 w24 w25 w26 w27 w28 hk29) (cwV 3 hts gX4_away_X4_begin rfl rfl rfl (by decide +kernel) ⟨(Nat.le_of_ble_eq_true rfl), (Nat.le_of_ble_eq_true rfl)⟩) (mc_preV hK (hP.sub (ws' := [(th, .inr (4, [.int tthr, .int tdd, .int tn, .ref tqA, .ref tqB, .ref tqC, .long ta, .long tb, .long tc, .long tp, .long tq, .long tr, .long ts, .int tsome, .ref tqL, .int tlet, .ref tqW, .ref tqO])), (tqA, .inl (cyJ, 40, .inr (.inl tla))), (tqB, .inl (cyJ, 40, .inr (.inl tlb))), (tqC, .inl (cyJ, 40, .inr (.inl tlc))), (tqL, .inl (cyJ, 7, .inr (.inl tlast))), (tqW, .inl (cyC, 40, .inl twd)), (tqO, .inl (cyI, 5, .inl topn))]) [0, 1, 2, 3, 4, 5, 6] rfl) (hD.sub (ws' := [(th, .inr (4, [.int tthr, .int tdd, .int tn, .ref tqA, .ref tqB, .ref tqC, .long ta, .long tb, .long tc, .long tp, .long tq, .long tr, .long ts, .int tsome, .ref tqL, .int tlet, .ref tqW, .ref tqO])), (tqA, .inl (cyJ, 40, .inr (.inl tla))), (tqB, .inl (cyJ, 40, .inr (.inl tlb))), (tqC, .inl (cyJ, 40, .inr (.inl tlc))), (tqL, .inl (cyJ, 7, .inr (.inl tlast))), (tqW, .inl (cyC, 40, .inl twd)), (tqO, .inl (cyI, 5, .inl topn))]) [0, 1, 2, 3, 4, 5, 6] (by decide) rfl) hnw rfl rfl) rfl rfl hl.1 rfl (lv_room (Nat.le_of_ble_eq_true rfl)) dX4_away_134 ⟨Nat.zero_le _, Nat.zero_le _⟩) hP hD hS hA [0, 1, 2, 3, 4, 5, 6] [] rfl rfl rfl (by decide) (fun H locs hP hD hS => ?_)
                          have hP : va_P (dC, dI) vwCl [(th, .inr (4, [.int tthr, .int tdd, .int tn, .ref tqA, .ref tqB, .ref tqC, .long w22, .long w23, .long w24, .long w25, .long w26, .long w27, .long w28, .int tsome, .ref tqL, .int tlet, .ref tqW, .ref tqO])), (tqA, .inl (cyJ, 40, .inr (.inl tla))), (tqB, .inl (cyJ, 40, .inr (.inl tlb))), (tqC, .inl (cyJ, 40, .inr (.inl tlc))), (tqL, .inl (cyJ, 7, .inr (.inl tlast))), (tqW, .inl (cyC, 40, .inl twd)), (tqO, .inl (cyI, 5, .inl topn))] H := hP
                          have hD : va_D A [(th, .inr (4, [.int tthr, .int tdd, .int tn, .ref tqA, .ref tqB, .ref tqC, .long w22, .long w23, .long w24, .long w25, .long w26, .long w27, .long w28, .int tsome, .ref tqL, .int tlet, .ref tqW, .ref tqO])), (tqA, .inl (cyJ, 40, .inr (.inl tla))), (tqB, .inl (cyJ, 40, .inr (.inl tlb))), (tqC, .inl (cyJ, 40, .inr (.inl tlc))), (tqL, .inl (cyJ, 7, .inr (.inl tlast))), (tqW, .inl (cyC, 40, .inl twd)), (tqO, .inl (cyI, 5, .inl topn))] := hD
                          refine lv_aload_n hx hb dX4_away_137 rfl (lv_at hl 3 rfl) ?_
                          refine lv_lload hx hb dX4_away_138 (lv_at hl 1 rfl) ?_
                          refine lv_lload hx hb dX4_away_140 (lv_at hl 0 rfl) ?_
                          obtain ⟨w30, w31, w32, w33, w34, w35, w36, hk37, h⟩ := dm_b7s h
                          refine mc_v (wr := []) (va_runV (As := [.long v3, .long v6]) (rest := []) ⟨hx, hb, hml, hown, hts⟩ (c_X4_complete l dC dI cyI cyJ cyC th tqA tqB tqC tqL tqW tqO H.size tthr tdd tn tla tlb tlc w22 w23 w24 w25 w26 w27 w28 tsome tlast tlet twd topn v3 v6 w30 w31 w32 w33 w34 w35 w36 hk37) (cwV 2 hts gX4_away_X4_complete rfl rfl rfl (by decide +kernel) ⟨(Nat.le_of_ble_eq_true rfl), (Nat.le_of_ble_eq_true rfl)⟩) (mc_preV hK (hP.sub (ws' := [(th, .inr (4, [.int tthr, .int tdd, .int tn, .ref tqA, .ref tqB, .ref tqC, .long w22, .long w23, .long w24, .long w25, .long w26, .long w27, .long w28, .int tsome, .ref tqL, .int tlet, .ref tqW, .ref tqO])), (tqA, .inl (cyJ, 40, .inr (.inl tla))), (tqB, .inl (cyJ, 40, .inr (.inl tlb))), (tqC, .inl (cyJ, 40, .inr (.inl tlc))), (tqL, .inl (cyJ, 7, .inr (.inl tlast))), (tqW, .inl (cyC, 40, .inl twd)), (tqO, .inl (cyI, 5, .inl topn))]) [0, 1, 2, 3, 4, 5, 6] rfl) (hD.sub (ws' := [(th, .inr (4, [.int tthr, .int tdd, .int tn, .ref tqA, .ref tqB, .ref tqC, .long w22, .long w23, .long w24, .long w25, .long w26, .long w27, .long w28, .int tsome, .ref tqL, .int tlet, .ref tqW, .ref tqO])), (tqA, .inl (cyJ, 40, .inr (.inl tla))), (tqB, .inl (cyJ, 40, .inr (.inl tlb))), (tqC, .inl (cyJ, 40, .inr (.inl tlc))), (tqL, .inl (cyJ, 7, .inr (.inl tlast))), (tqW, .inl (cyC, 40, .inl twd)), (tqO, .inl (cyI, 5, .inl topn))]) [0, 1, 2, 3, 4, 5, 6] (by decide) rfl) hnw rfl rfl) rfl rfl hl.1 rfl (lv_room (Nat.le_of_ble_eq_true rfl)) dX4_away_142 ⟨Nat.zero_le _, Nat.zero_le _⟩) hP hD hS hA [0, 1, 2, 3, 4, 5, 6] [] rfl rfl rfl (by decide) (fun H locs hP hD hS => ?_)
                          have hP : va_P (dC, dI) vwCl [(th, .inr (4, [.int tthr, .int tdd, .int tn, .ref tqA, .ref tqB, .ref tqC, .long w30, .long w31, .long w32, .long w33, .long w34, .long w35, .long w36, .int tsome, .ref tqL, .int tlet, .ref tqW, .ref tqO])), (tqA, .inl (cyJ, 40, .inr (.inl tla))), (tqB, .inl (cyJ, 40, .inr (.inl tlb))), (tqC, .inl (cyJ, 40, .inr (.inl tlc))), (tqL, .inl (cyJ, 7, .inr (.inl tlast))), (tqW, .inl (cyC, 40, .inl twd)), (tqO, .inl (cyI, 5, .inl topn))] H := hP
                          have hD : va_D A [(th, .inr (4, [.int tthr, .int tdd, .int tn, .ref tqA, .ref tqB, .ref tqC, .long w30, .long w31, .long w32, .long w33, .long w34, .long w35, .long w36, .int tsome, .ref tqL, .int tlet, .ref tqW, .ref tqO])), (tqA, .inl (cyJ, 40, .inr (.inl tla))), (tqB, .inl (cyJ, 40, .inr (.inl tlb))), (tqC, .inl (cyJ, 40, .inr (.inl tlc))), (tqL, .inl (cyJ, 7, .inr (.inl tlast))), (tqW, .inl (cyC, 40, .inl twd)), (tqO, .inl (cyI, 5, .inl topn))] := hD
                          obtain ⟨hE0, hE1, hE2, hE3, hE4, hE5, hE6⟩ := dm_i7 h
                          subst hE0; subst hE1; subst hE2; subst hE3; subst hE4; subst hE5; subst hE6
                          rw [hQQ]
                          have hP9 := hP.sub (ws' := [(th, .inr (4, [.int tthr, .int tdd, .int tn, .ref tqA, .ref tqB, .ref tqC, .long w30, .long w31, .long w32, .long w33, .long w34, .long w35, .long w36, .int tsome, .ref tqL, .int tlet, .ref tqW, .ref tqO])), (tqA, .inl (cyJ, 40, .inr (.inl tla))), (tqB, .inl (cyJ, 40, .inr (.inl tlb))), (tqC, .inl (cyJ, 40, .inr (.inl tlc))), (tqL, .inl (cyJ, 7, .inr (.inl tlast))), (tqW, .inl (cyC, 40, .inl twd)), (tqO, .inl (cyI, 5, .inl topn))]) [0, 1, 2, 3, 4, 5, 6] rfl
                          have hD9 := hD.sub (ws' := [(th, .inr (4, [.int tthr, .int tdd, .int tn, .ref tqA, .ref tqB, .ref tqC, .long w30, .long w31, .long w32, .long w33, .long w34, .long w35, .long w36, .int tsome, .ref tqL, .int tlet, .ref tqW, .ref tqO])), (tqA, .inl (cyJ, 40, .inr (.inl tla))), (tqB, .inl (cyJ, 40, .inr (.inl tlb))), (tqC, .inl (cyJ, 40, .inr (.inl tlc))), (tqL, .inl (cyJ, 7, .inr (.inl tlast))), (tqW, .inl (cyC, 40, .inl twd)), (tqO, .inl (cyI, 5, .inl topn))]) [0, 1, 2, 3, 4, 5, 6] (by decide) rfl
                          exact W.vret hx hb hr (fun t ht hW => ⟨⟨(), rfl, trivial, by rw [ht]; exact hP9, hD9⟩, hS.F ht⟩) hS.2.2 dX4_away_145
                        · have h := dm_f hc18 h
                          refine lv_goto (tgt := 146) hx hb dX4_away_112 (by decide) ?_
                          refine lv_lload hx hb dX4_away_146 (lv_at hl 0 rfl) ?_
                          refine lv_lconst (v := 1) hx hb dX4_away_148 (by decide) ?_
                          refine lv_ladd hx hb dX4_away_149 ?_
                          refine lv_topl (fun x38 ex38 => ?_)
                          have h := dm_lu ex38 h
                          refine lv_lstore (lv' := [(8, .long x38), (6, .long v3), (4, .long v1), (0, .ref th), (1, .int p0), (2, .long p1)]) hx hb dX4_away_150 hl (by decide) rfl (fun ls hl => ?_)
                          refine lv_goto (tgt := 26) hx hb dX4_away_152 (by decide) ?_
                          exact ih26 x38 H _ ls h (hP.sub [0, 1, 2, 3, 4, 5, 6] rfl) (hD.sub [0, 1, 2, 3, 4, 5, 6] (by decide) rfl) hS (lv_sub hl [0, 1, 2, 3, 4, 5] rfl)
                      · have h := dm_f hc12 h
                        refine lv_goto (tgt := 146) hx hb dX4_away_62 (by decide) ?_
                        refine lv_lload hx hb dX4_away_146 (lv_at hl 0 rfl) ?_
                        refine lv_lconst (v := 1) hx hb dX4_away_148 (by decide) ?_
                        refine lv_ladd hx hb dX4_away_149 ?_
                        refine lv_topl (fun x39 ex39 => ?_)
                        have h := dm_lu ex39 h
                        refine lv_lstore (lv' := [(8, .long x39), (6, .long v3), (4, .long v1), (0, .ref th), (1, .int p0), (2, .long p1)]) hx hb dX4_away_150 hl (by decide) rfl (fun ls hl => ?_)
                        refine lv_goto (tgt := 26) hx hb dX4_away_152 (by decide) ?_
                        exact ih26 x39 H _ ls h (hP.sub [0, 1, 2, 3, 4, 5, 6] rfl) (hD.sub [0, 1, 2, 3, 4, 5, 6] (by decide) rfl) hS (lv_sub hl [0, 1, 2, 3, 4, 5] rfl)
                    · have h := dm_f hc9 h
                      refine lv_lload hx hb dX4_away_42 (lv_at hl 0 rfl) ?_
                      refine lv_lload hx hb dX4_away_44 (lv_at hl 2 rfl) ?_
                      refine mc_lif_ne (tgt := 146) hx hb dX4_away_46 dX4_away_47 (by decide) (fun hc40 => ?_) (fun hc40 => ?_)
                      · have h := dm_f hc40 h
                        refine lv_lload hx hb dX4_away_146 (lv_at hl 0 rfl) ?_
                        refine lv_lconst (v := 1) hx hb dX4_away_148 (by decide) ?_
                        refine lv_ladd hx hb dX4_away_149 ?_
                        refine lv_topl (fun x41 ex41 => ?_)
                        have h := dm_lu ex41 h
                        refine lv_lstore (lv' := [(8, .long x41), (6, .long v3), (4, .long v1), (0, .ref th), (1, .int p0), (2, .long p1)]) hx hb dX4_away_150 hl (by decide) rfl (fun ls hl => ?_)
                        refine lv_goto (tgt := 26) hx hb dX4_away_152 (by decide) ?_
                        exact ih26 x41 H _ ls h (hP.sub [0, 1, 2, 3, 4, 5, 6] rfl) (hD.sub [0, 1, 2, 3, 4, 5, 6] (by decide) rfl) hS (lv_sub hl [0, 1, 2, 3, 4, 5] rfl)
                      · have h := dm_t hc40 h
                        refine lv_lload hx hb dX4_away_50 (lv_at hl 1 rfl) ?_
                        refine lv_lload hx hb dX4_away_52 (lv_at hl 0 rfl) ?_
                        obtain ⟨r42, hk43, h⟩ := dm_b1s h
                        refine mc_l (wr := [(th, .inr (4, [.int tthr, .int tdd, .int tn, .ref tqA, .ref tqB, .ref tqC, .long ta, .long tb, .long tc, .long tp, .long tq, .long tr, .long ts, .int tsome, .ref tqL, .int tlet, .ref tqW, .ref tqO])), (tqA, .inl (cyJ, 40, .inr (.inl tla))), (tqB, .inl (cyJ, 40, .inr (.inl tlb))), (tqC, .inl (cyJ, 40, .inr (.inl tlc))), (tqL, .inl (cyJ, 7, .inr (.inl tlast))), (tqW, .inl (cyC, 40, .inl twd)), (tqO, .inl (cyI, 5, .inl topn))]) (va_runS (As := [.long v3, .long v6]) (rest := []) ⟨hx, hb, hml, hown, hts⟩ (c_X4_common l dC dI cyI cyJ cyC H.size v3 v6 r42 hk43) (va_cwS 2 hts gX4_away_X4_common rfl rfl rfl (by decide +kernel) ⟨(Nat.le_of_ble_eq_true rfl), (Nat.le_of_ble_eq_true rfl)⟩) (mc_preS hK (hP.sub (ws' := []) [] rfl) (hD.sub (ws' := []) [] (by decide) rfl) hnw) rfl rfl hl.1 rfl (lv_room (Nat.le_of_ble_eq_true rfl)) dX4_away_54 ⟨Nat.zero_le _, Nat.zero_le _⟩) hP hD hS hA [] [0, 1, 2, 3, 4, 5, 6] rfl rfl rfl (by decide) (fun H locs hP hD hS => ?_)
                        have hP : va_P (dC, dI) vwCl [(th, .inr (4, [.int tthr, .int tdd, .int tn, .ref tqA, .ref tqB, .ref tqC, .long ta, .long tb, .long tc, .long tp, .long tq, .long tr, .long ts, .int tsome, .ref tqL, .int tlet, .ref tqW, .ref tqO])), (tqA, .inl (cyJ, 40, .inr (.inl tla))), (tqB, .inl (cyJ, 40, .inr (.inl tlb))), (tqC, .inl (cyJ, 40, .inr (.inl tlc))), (tqL, .inl (cyJ, 7, .inr (.inl tlast))), (tqW, .inl (cyC, 40, .inl twd)), (tqO, .inl (cyI, 5, .inl topn))] H := hP
                        have hD : va_D A [(th, .inr (4, [.int tthr, .int tdd, .int tn, .ref tqA, .ref tqB, .ref tqC, .long ta, .long tb, .long tc, .long tp, .long tq, .long tr, .long ts, .int tsome, .ref tqL, .int tlet, .ref tqW, .ref tqO])), (tqA, .inl (cyJ, 40, .inr (.inl tla))), (tqB, .inl (cyJ, 40, .inr (.inl tlb))), (tqC, .inl (cyJ, 40, .inr (.inl tlc))), (tqL, .inl (cyJ, 7, .inr (.inl tlast))), (tqW, .inl (cyC, 40, .inl twd)), (tqO, .inl (cyI, 5, .inl topn))] := hD
                        refine lv_lconst (v := 1) hx hb dX4_away_57 (by decide) ?_
                        refine mc_lif_eq (tgt := 65) hx hb dX4_away_58 dX4_away_59 (by decide) (fun hc44 => ?_) (fun hc44 => ?_)
                        · have h := dm_t hc44 h
                          refine lv_aload_n hx hb dX4_away_65 rfl (lv_at hl 3 rfl) ?_
                          refine va_get (D := (dC, dI)) (ci := 4) (v := .ref tqA) (C := RX4) (T := TX4) (N := 18) hx hb hts hinX4 hown hK hP 0 rfl rfl 3 (by decide) (hts (.fieldLink RX4 13 "FormDeskModel" "listA" "[J") (by decide +kernel)) (fun _ h9 => h9) rfl dX4_away_66 ?_
                          refine lv_iload_n hx hb dX4_away_69 rfl (lv_at hl 4 rfl) ?_
                          obtain ⟨hn45, h⟩ := dm_gs h
                          refine va_lald hx hb hK hP 1 1 rfl rfl hn45 dX4_away_70 ?_
                          refine lv_lload hx hb dX4_away_71 (lv_at hl 1 rfl) ?_
                          refine lv_lmul hx hb dX4_away_73 ?_
                          refine lv_lload hx hb dX4_away_74 (lv_at hl 1 rfl) ?_
                          refine lv_lmul hx hb dX4_away_76 ?_
                          refine lv_aload_n hx hb dX4_away_77 rfl (lv_at hl 3 rfl) ?_
                          refine va_get (D := (dC, dI)) (ci := 4) (v := .ref tqB) (C := RX4) (T := TX4) (N := 18) hx hb hts hinX4 hown hK hP 0 rfl rfl 4 (by decide) (hts (.fieldLink RX4 17 "FormDeskModel" "listB" "[J") (by decide +kernel)) (fun _ h9 => h9) rfl dX4_away_78 ?_
                          refine lv_iload_n hx hb dX4_away_81 rfl (lv_at hl 4 rfl) ?_
                          obtain ⟨hn46, h⟩ := dm_gs h
                          refine va_lald hx hb hK hP 2 1 rfl rfl hn46 dX4_away_82 ?_
                          refine lv_lload hx hb dX4_away_83 (lv_at hl 1 rfl) ?_
                          refine lv_lmul hx hb dX4_away_85 ?_
                          refine lv_lload hx hb dX4_away_86 (lv_at hl 0 rfl) ?_
                          refine lv_lmul hx hb dX4_away_88 ?_
                          refine lv_ladd hx hb dX4_away_89 ?_
                          refine lv_aload_n hx hb dX4_away_90 rfl (lv_at hl 3 rfl) ?_
                          refine va_get (D := (dC, dI)) (ci := 4) (v := .ref tqC) (C := RX4) (T := TX4) (N := 18) hx hb hts hinX4 hown hK hP 0 rfl rfl 5 (by decide) (hts (.fieldLink RX4 20 "FormDeskModel" "listC" "[J") (by decide +kernel)) (fun _ h9 => h9) rfl dX4_away_91 ?_
                          refine lv_iload_n hx hb dX4_away_94 rfl (lv_at hl 4 rfl) ?_
                          obtain ⟨hn47, h⟩ := dm_gs h
                          refine va_lald hx hb hK hP 3 1 rfl rfl hn47 dX4_away_95 ?_
                          refine lv_lload hx hb dX4_away_96 (lv_at hl 0 rfl) ?_
                          refine lv_lmul hx hb dX4_away_98 ?_
                          refine lv_lload hx hb dX4_away_99 (lv_at hl 0 rfl) ?_
                          refine lv_lmul hx hb dX4_away_101 ?_
                          refine lv_ladd hx hb dX4_away_102 ?_
                          refine lv_lload_n hx hb dX4_away_103 rfl (lv_at hl 5 rfl) ?_
                          obtain ⟨r48, hk49, h⟩ := dm_b1s h
                          refine mc_l (wr := [(th, .inr (4, [.int tthr, .int tdd, .int tn, .ref tqA, .ref tqB, .ref tqC, .long ta, .long tb, .long tc, .long tp, .long tq, .long tr, .long ts, .int tsome, .ref tqL, .int tlet, .ref tqW, .ref tqO])), (tqA, .inl (cyJ, 40, .inr (.inl tla))), (tqB, .inl (cyJ, 40, .inr (.inl tlb))), (tqC, .inl (cyJ, 40, .inr (.inl tlc))), (tqL, .inl (cyJ, 7, .inr (.inl tlast))), (tqW, .inl (cyC, 40, .inl twd)), (tqO, .inl (cyI, 5, .inl topn))]) (va_runS (As := [.long (((((tla (p0).toNatClampNeg) * v3) * v3) + (((tlb (p0).toNatClampNeg) * v3) * v6)) + (((tlc (p0).toNatClampNeg) * v6) * v6)), .long p1]) (rest := []) ⟨hx, hb, hml, hown, hts⟩ (c_X4_common l dC dI cyI cyJ cyC H.size (((((tla (p0).toNatClampNeg) * v3) * v3) + (((tlb (p0).toNatClampNeg) * v3) * v6)) + (((tlc (p0).toNatClampNeg) * v6) * v6)) p1 r48 hk49) (va_cwS 2 hts gX4_away_X4_common rfl rfl rfl (by decide +kernel) ⟨(Nat.le_of_ble_eq_true rfl), (Nat.le_of_ble_eq_true rfl)⟩) (mc_preS hK (hP.sub (ws' := []) [] rfl) (hD.sub (ws' := []) [] (by decide) rfl) hnw) rfl rfl hl.1 rfl (lv_room (Nat.le_of_ble_eq_true rfl)) dX4_away_104 ⟨Nat.zero_le _, Nat.zero_le _⟩) hP hD hS hA [] [0, 1, 2, 3, 4, 5, 6] rfl rfl rfl (by decide) (fun H locs hP hD hS => ?_)
                          have hP : va_P (dC, dI) vwCl [(th, .inr (4, [.int tthr, .int tdd, .int tn, .ref tqA, .ref tqB, .ref tqC, .long ta, .long tb, .long tc, .long tp, .long tq, .long tr, .long ts, .int tsome, .ref tqL, .int tlet, .ref tqW, .ref tqO])), (tqA, .inl (cyJ, 40, .inr (.inl tla))), (tqB, .inl (cyJ, 40, .inr (.inl tlb))), (tqC, .inl (cyJ, 40, .inr (.inl tlc))), (tqL, .inl (cyJ, 7, .inr (.inl tlast))), (tqW, .inl (cyC, 40, .inl twd)), (tqO, .inl (cyI, 5, .inl topn))] H := hP
                          have hD : va_D A [(th, .inr (4, [.int tthr, .int tdd, .int tn, .ref tqA, .ref tqB, .ref tqC, .long ta, .long tb, .long tc, .long tp, .long tq, .long tr, .long ts, .int tsome, .ref tqL, .int tlet, .ref tqW, .ref tqO])), (tqA, .inl (cyJ, 40, .inr (.inl tla))), (tqB, .inl (cyJ, 40, .inr (.inl tlb))), (tqC, .inl (cyJ, 40, .inr (.inl tlc))), (tqL, .inl (cyJ, 7, .inr (.inl tlast))), (tqW, .inl (cyC, 40, .inl twd)), (tqO, .inl (cyI, 5, .inl topn))] := hD
                          refine lv_lconst (v := 1) hx hb dX4_away_107 (by decide) ?_
                          refine mc_lif_eq (tgt := 115) hx hb dX4_away_108 dX4_away_109 (by decide) (fun hc50 => ?_) (fun hc50 => ?_)
                          · have h := dm_t hc50 h
                            refine lv_aload_n hx hb dX4_away_115 rfl (lv_at hl 3 rfl) ?_
                            refine lv_aload_n hx hb dX4_away_116 rfl (lv_at hl 3 rfl) ?_
                            refine va_get (D := (dC, dI)) (ci := 4) (v := .ref tqA) (C := RX4) (T := TX4) (N := 18) hx hb hts hinX4 hown hK hP 0 rfl rfl 3 (by decide) (hts (.fieldLink RX4 13 "FormDeskModel" "listA" "[J") (by decide +kernel)) (fun _ h9 => h9) rfl dX4_away_117 ?_
                            refine lv_iload_n hx hb dX4_away_120 rfl (lv_at hl 4 rfl) ?_
                            obtain ⟨hn51, h⟩ := dm_gs h
                            refine va_lald hx hb hK hP 1 1 rfl rfl hn51 dX4_away_121 ?_
                            refine lv_aload_n hx hb dX4_away_122 rfl (lv_at hl 3 rfl) ?_
                            refine va_get (D := (dC, dI)) (ci := 4) (v := .ref tqB) (C := RX4) (T := TX4) (N := 18) hx hb hts hinX4 hown hK hP 0 rfl rfl 4 (by decide) (hts (.fieldLink RX4 17 "FormDeskModel" "listB" "[J") (by decide +kernel)) (fun _ h9 => h9) rfl dX4_away_123 ?_
                            refine lv_iload_n hx hb dX4_away_126 rfl (lv_at hl 4 rfl) ?_
                            obtain ⟨hn52, h⟩ := dm_gs h
                            refine va_lald hx hb hK hP 2 1 rfl rfl hn52 dX4_away_127 ?_
                            refine lv_aload_n hx hb dX4_away_128 rfl (lv_at hl 3 rfl) ?_
                            refine va_get (D := (dC, dI)) (ci := 4) (v := .ref tqC) (C := RX4) (T := TX4) (N := 18) hx hb hts hinX4 hown hK hP 0 rfl rfl 5 (by decide) (hts (.fieldLink RX4 20 "FormDeskModel" "listC" "[J") (by decide +kernel)) (fun _ h9 => h9) rfl dX4_away_129 ?_
                            refine lv_iload_n hx hb dX4_away_132 rfl (lv_at hl 4 rfl) ?_
                            obtain ⟨hn53, h⟩ := dm_gs h
                            refine va_lald hx hb hK hP 3 1 rfl rfl hn53 dX4_away_133 ?_
                            obtain ⟨w54, w55, w56, w57, w58, w59, w60, hk61, h⟩ := dm_b7s h
                            refine mc_v (wr := []) (va_runV (As := [.long (tla (p0).toNatClampNeg), .long (tlb (p0).toNatClampNeg), .long (tlc (p0).toNatClampNeg)]) (rest := []) ⟨hx, hb, hml, hown, hts⟩ (c_X4_begin l dC dI cyI cyJ cyC th tqA tqB tqC tqL tqW tqO H.size tthr tdd tn tla tlb tlc ta tb tc tp tq tr ts tsome tlast tlet twd topn (tla (p0).toNatClampNeg) (tlb (p0).toNatClampNeg) (tlc (p0).toNatClampNeg) w54 w55 w56 w57 w58 w59 w60 hk61) (cwV 3 hts gX4_away_X4_begin rfl rfl rfl (by decide +kernel) ⟨(Nat.le_of_ble_eq_true rfl), (Nat.le_of_ble_eq_true rfl)⟩) (mc_preV hK (hP.sub (ws' := [(th, .inr (4, [.int tthr, .int tdd, .int tn, .ref tqA, .ref tqB, .ref tqC, .long ta, .long tb, .long tc, .long tp, .long tq, .long tr, .long ts, .int tsome, .ref tqL, .int tlet, .ref tqW, .ref tqO])), (tqA, .inl (cyJ, 40, .inr (.inl tla))), (tqB, .inl (cyJ, 40, .inr (.inl tlb))), (tqC, .inl (cyJ, 40, .inr (.inl tlc))), (tqL, .inl (cyJ, 7, .inr (.inl tlast))), (tqW, .inl (cyC, 40, .inl twd)), (tqO, .inl (cyI, 5, .inl topn))]) [0, 1, 2, 3, 4, 5, 6] rfl) (hD.sub (ws' := [(th, .inr (4, [.int tthr, .int tdd, .int tn, .ref tqA, .ref tqB, .ref tqC, .long ta, .long tb, .long tc, .long tp, .long tq, .long tr, .long ts, .int tsome, .ref tqL, .int tlet, .ref tqW, .ref tqO])), (tqA, .inl (cyJ, 40, .inr (.inl tla))), (tqB, .inl (cyJ, 40, .inr (.inl tlb))), (tqC, .inl (cyJ, 40, .inr (.inl tlc))), (tqL, .inl (cyJ, 7, .inr (.inl tlast))), (tqW, .inl (cyC, 40, .inl twd)), (tqO, .inl (cyI, 5, .inl topn))]) [0, 1, 2, 3, 4, 5, 6] (by decide) rfl) hnw rfl rfl) rfl rfl hl.1 rfl (lv_room (Nat.le_of_ble_eq_true rfl)) dX4_away_134 ⟨Nat.zero_le _, Nat.zero_le _⟩) hP hD hS hA [0, 1, 2, 3, 4, 5, 6] [] rfl rfl rfl (by decide) (fun H locs hP hD hS => ?_)
                            have hP : va_P (dC, dI) vwCl [(th, .inr (4, [.int tthr, .int tdd, .int tn, .ref tqA, .ref tqB, .ref tqC, .long w54, .long w55, .long w56, .long w57, .long w58, .long w59, .long w60, .int tsome, .ref tqL, .int tlet, .ref tqW, .ref tqO])), (tqA, .inl (cyJ, 40, .inr (.inl tla))), (tqB, .inl (cyJ, 40, .inr (.inl tlb))), (tqC, .inl (cyJ, 40, .inr (.inl tlc))), (tqL, .inl (cyJ, 7, .inr (.inl tlast))), (tqW, .inl (cyC, 40, .inl twd)), (tqO, .inl (cyI, 5, .inl topn))] H := hP
                            have hD : va_D A [(th, .inr (4, [.int tthr, .int tdd, .int tn, .ref tqA, .ref tqB, .ref tqC, .long w54, .long w55, .long w56, .long w57, .long w58, .long w59, .long w60, .int tsome, .ref tqL, .int tlet, .ref tqW, .ref tqO])), (tqA, .inl (cyJ, 40, .inr (.inl tla))), (tqB, .inl (cyJ, 40, .inr (.inl tlb))), (tqC, .inl (cyJ, 40, .inr (.inl tlc))), (tqL, .inl (cyJ, 7, .inr (.inl tlast))), (tqW, .inl (cyC, 40, .inl twd)), (tqO, .inl (cyI, 5, .inl topn))] := hD
                            refine lv_aload_n hx hb dX4_away_137 rfl (lv_at hl 3 rfl) ?_
                            refine lv_lload hx hb dX4_away_138 (lv_at hl 1 rfl) ?_
                            refine lv_lload hx hb dX4_away_140 (lv_at hl 0 rfl) ?_
                            obtain ⟨w62, w63, w64, w65, w66, w67, w68, hk69, h⟩ := dm_b7s h
                            refine mc_v (wr := []) (va_runV (As := [.long v3, .long v6]) (rest := []) ⟨hx, hb, hml, hown, hts⟩ (c_X4_complete l dC dI cyI cyJ cyC th tqA tqB tqC tqL tqW tqO H.size tthr tdd tn tla tlb tlc w54 w55 w56 w57 w58 w59 w60 tsome tlast tlet twd topn v3 v6 w62 w63 w64 w65 w66 w67 w68 hk69) (cwV 2 hts gX4_away_X4_complete rfl rfl rfl (by decide +kernel) ⟨(Nat.le_of_ble_eq_true rfl), (Nat.le_of_ble_eq_true rfl)⟩) (mc_preV hK (hP.sub (ws' := [(th, .inr (4, [.int tthr, .int tdd, .int tn, .ref tqA, .ref tqB, .ref tqC, .long w54, .long w55, .long w56, .long w57, .long w58, .long w59, .long w60, .int tsome, .ref tqL, .int tlet, .ref tqW, .ref tqO])), (tqA, .inl (cyJ, 40, .inr (.inl tla))), (tqB, .inl (cyJ, 40, .inr (.inl tlb))), (tqC, .inl (cyJ, 40, .inr (.inl tlc))), (tqL, .inl (cyJ, 7, .inr (.inl tlast))), (tqW, .inl (cyC, 40, .inl twd)), (tqO, .inl (cyI, 5, .inl topn))]) [0, 1, 2, 3, 4, 5, 6] rfl) (hD.sub (ws' := [(th, .inr (4, [.int tthr, .int tdd, .int tn, .ref tqA, .ref tqB, .ref tqC, .long w54, .long w55, .long w56, .long w57, .long w58, .long w59, .long w60, .int tsome, .ref tqL, .int tlet, .ref tqW, .ref tqO])), (tqA, .inl (cyJ, 40, .inr (.inl tla))), (tqB, .inl (cyJ, 40, .inr (.inl tlb))), (tqC, .inl (cyJ, 40, .inr (.inl tlc))), (tqL, .inl (cyJ, 7, .inr (.inl tlast))), (tqW, .inl (cyC, 40, .inl twd)), (tqO, .inl (cyI, 5, .inl topn))]) [0, 1, 2, 3, 4, 5, 6] (by decide) rfl) hnw rfl rfl) rfl rfl hl.1 rfl (lv_room (Nat.le_of_ble_eq_true rfl)) dX4_away_142 ⟨Nat.zero_le _, Nat.zero_le _⟩) hP hD hS hA [0, 1, 2, 3, 4, 5, 6] [] rfl rfl rfl (by decide) (fun H locs hP hD hS => ?_)
                            have hP : va_P (dC, dI) vwCl [(th, .inr (4, [.int tthr, .int tdd, .int tn, .ref tqA, .ref tqB, .ref tqC, .long w62, .long w63, .long w64, .long w65, .long w66, .long w67, .long w68, .int tsome, .ref tqL, .int tlet, .ref tqW, .ref tqO])), (tqA, .inl (cyJ, 40, .inr (.inl tla))), (tqB, .inl (cyJ, 40, .inr (.inl tlb))), (tqC, .inl (cyJ, 40, .inr (.inl tlc))), (tqL, .inl (cyJ, 7, .inr (.inl tlast))), (tqW, .inl (cyC, 40, .inl twd)), (tqO, .inl (cyI, 5, .inl topn))] H := hP
                            have hD : va_D A [(th, .inr (4, [.int tthr, .int tdd, .int tn, .ref tqA, .ref tqB, .ref tqC, .long w62, .long w63, .long w64, .long w65, .long w66, .long w67, .long w68, .int tsome, .ref tqL, .int tlet, .ref tqW, .ref tqO])), (tqA, .inl (cyJ, 40, .inr (.inl tla))), (tqB, .inl (cyJ, 40, .inr (.inl tlb))), (tqC, .inl (cyJ, 40, .inr (.inl tlc))), (tqL, .inl (cyJ, 7, .inr (.inl tlast))), (tqW, .inl (cyC, 40, .inl twd)), (tqO, .inl (cyI, 5, .inl topn))] := hD
                            obtain ⟨hE0, hE1, hE2, hE3, hE4, hE5, hE6⟩ := dm_i7 h
                            subst hE0; subst hE1; subst hE2; subst hE3; subst hE4; subst hE5; subst hE6
                            rw [hQQ]
                            have hP9 := hP.sub (ws' := [(th, .inr (4, [.int tthr, .int tdd, .int tn, .ref tqA, .ref tqB, .ref tqC, .long w62, .long w63, .long w64, .long w65, .long w66, .long w67, .long w68, .int tsome, .ref tqL, .int tlet, .ref tqW, .ref tqO])), (tqA, .inl (cyJ, 40, .inr (.inl tla))), (tqB, .inl (cyJ, 40, .inr (.inl tlb))), (tqC, .inl (cyJ, 40, .inr (.inl tlc))), (tqL, .inl (cyJ, 7, .inr (.inl tlast))), (tqW, .inl (cyC, 40, .inl twd)), (tqO, .inl (cyI, 5, .inl topn))]) [0, 1, 2, 3, 4, 5, 6] rfl
                            have hD9 := hD.sub (ws' := [(th, .inr (4, [.int tthr, .int tdd, .int tn, .ref tqA, .ref tqB, .ref tqC, .long w62, .long w63, .long w64, .long w65, .long w66, .long w67, .long w68, .int tsome, .ref tqL, .int tlet, .ref tqW, .ref tqO])), (tqA, .inl (cyJ, 40, .inr (.inl tla))), (tqB, .inl (cyJ, 40, .inr (.inl tlb))), (tqC, .inl (cyJ, 40, .inr (.inl tlc))), (tqL, .inl (cyJ, 7, .inr (.inl tlast))), (tqW, .inl (cyC, 40, .inl twd)), (tqO, .inl (cyI, 5, .inl topn))]) [0, 1, 2, 3, 4, 5, 6] (by decide) rfl
                            exact W.vret hx hb hr (fun t ht hW => ⟨⟨(), rfl, trivial, by rw [ht]; exact hP9, hD9⟩, hS.F ht⟩) hS.2.2 dX4_away_145
                          · have h := dm_f hc50 h
                            refine lv_goto (tgt := 146) hx hb dX4_away_112 (by decide) ?_
                            refine lv_lload hx hb dX4_away_146 (lv_at hl 0 rfl) ?_
                            refine lv_lconst (v := 1) hx hb dX4_away_148 (by decide) ?_
                            refine lv_ladd hx hb dX4_away_149 ?_
                            refine lv_topl (fun x70 ex70 => ?_)
                            have h := dm_lu ex70 h
                            refine lv_lstore (lv' := [(8, .long x70), (6, .long v3), (4, .long v1), (0, .ref th), (1, .int p0), (2, .long p1)]) hx hb dX4_away_150 hl (by decide) rfl (fun ls hl => ?_)
                            refine lv_goto (tgt := 26) hx hb dX4_away_152 (by decide) ?_
                            exact ih26 x70 H _ ls h (hP.sub [0, 1, 2, 3, 4, 5, 6] rfl) (hD.sub [0, 1, 2, 3, 4, 5, 6] (by decide) rfl) hS (lv_sub hl [0, 1, 2, 3, 4, 5] rfl)
                        · have h := dm_f hc44 h
                          refine lv_goto (tgt := 146) hx hb dX4_away_62 (by decide) ?_
                          refine lv_lload hx hb dX4_away_146 (lv_at hl 0 rfl) ?_
                          refine lv_lconst (v := 1) hx hb dX4_away_148 (by decide) ?_
                          refine lv_ladd hx hb dX4_away_149 ?_
                          refine lv_topl (fun x71 ex71 => ?_)
                          have h := dm_lu ex71 h
                          refine lv_lstore (lv' := [(8, .long x71), (6, .long v3), (4, .long v1), (0, .ref th), (1, .int p0), (2, .long p1)]) hx hb dX4_away_150 hl (by decide) rfl (fun ls hl => ?_)
                          refine lv_goto (tgt := 26) hx hb dX4_away_152 (by decide) ?_
                          exact ih26 x71 H _ ls h (hP.sub [0, 1, 2, 3, 4, 5, 6] rfl) (hD.sub [0, 1, 2, 3, 4, 5, 6] (by decide) rfl) hS (lv_sub hl [0, 1, 2, 3, 4, 5] rfl)
              exact L26 100000 (0 : Int64) H _ ls h hP hD hS hl
        exact L15 100000 (0 : Int64) H _ ls h hP hD hS hl
  exact L3 100000 (1 : Int64) s.heap _ ls h hP hD hS hl

def f_X4_product_L27 (tdd : Int32) (tn : Int32) (tla : Nat → Int64) (tlb : Nat → Int64) (tlc : Nat → Int64) (x2 : Int64) (w3 : Int64) (w4 : Int64)  : Nat → Int64 → Option (Int32 × Int64 × Int64 × Int64 × Int64 × Int64 × Int64 × Int64)
  | 0, _ => none
  | n + 1, v13 =>
    dm_g (¬ ((2 : Int64) * w3) = 0) <|
    if ((v13 - w4) - (v13 - w4) / ((2 : Int64) * w3) * ((2 : Int64) * w3)) = (0 : Int64) then
      dm_g (¬ (((4 : Int64) * x2) * w3) = 0) <|
      dm_b7 (f_X4_begin (x2 * w3) v13 (((v13 * v13) - (tdd).toInt64) / (((4 : Int64) * x2) * w3))) fun w17 w18 w19 w20 w21 w22 w23 =>
      dm_b8 (f_X4_steps w17 w18 w19 w20 w21 w22 w23) fun r25 w26 w27 w28 w29 w30 w31 w32 =>
      dm_b1 (f_X4_classOf tn tla tlb tlc w26 w27 w28) fun r34 =>
      some (r34, w26, w27, w28, w29, w30, w31, w32)
    else
      dm_let (v13 + ((2 : Int64) * x2)) fun x36 =>
      f_X4_product_L27 tdd tn tla tlb tlc x2 w3 w4 n x36
def f_X4_product (tdd : Int32) (tn : Int32) (tla : Nat → Int64) (tlb : Nat → Int64) (tlc : Nat → Int64) (ta : Int64) (tb : Int64) (tc : Int64) (tp : Int64) (tq : Int64) (tr : Int64) (ts : Int64) (p0 : Int32) (p1 : Int32) : Option (Int32 × Int64 × Int64 × Int64 × Int64 × Int64 × Int64 × Int64) :=
  dm_g (¬ (p0 < 0 ∨ 40 ≤ (p0).toNatClampNeg)) <|
  dm_let (tla (p0).toNatClampNeg) fun x2 =>
  dm_b7 (f_X4_away tla tlb tlc ta tb tc tp tq tr ts p1 x2) fun w3 w4 w5 w6 w7 w8 w9 =>
  dm_g (¬ (p0 < 0 ∨ 40 ≤ (p0).toNatClampNeg)) <|
  dm_let (tlb (p0).toNatClampNeg) fun x12 =>
  f_X4_product_L27 tdd tn tla tlb tlc x2 w3 w4 100000 x12
set_option maxHeartbeats 4000000 in
set_option maxRecDepth 100000 in
theorem c_X4_product (l : Launch) (dC : Nat → ClassId) (dI : Nat → Nat → Nat) (cyI cyJ cyC : ClassId) (th tqA tqB tqC tqL tqW tqO : Nat) (sz : Nat) (tthr : Int32) (tdd : Int32) (tn : Int32) (tla : Nat → Int64) (tlb : Nat → Int64) (tlc : Nat → Int64) (ta : Int64) (tb : Int64) (tc : Int64) (tp : Int64) (tq : Int64) (tr : Int64) (ts : Int64) (tsome : Int32) (tlast : Nat → Int64) (tlet : Int32) (twd : Nat → Int32) (topn : Nat → Int32) (p0 : Int32) (p1 : Int32) (rv : Int32) (ta' : Int64) (tb' : Int64) (tc' : Int64) (tp' : Int64) (tq' : Int64) (tr' : Int64) (ts' : Int64) (hf : f_X4_product tdd tn tla tlb tlc ta tb tc tp tq tr ts p0 p1 = some (rv, ta', tb', tc', tp', tq', tr', ts')) : Met l yX4_product wsX4_product { frames := 3, cells := 0, slots := 0, locals := 92 } (va_Pc [.ref th, .int p0, .int p1] (mc_Pre (dC, dI) (mc_tys cyI cyJ cyC) [(th, .inr (4, [.int tthr, .int tdd, .int tn, .ref tqA, .ref tqB, .ref tqC, .long ta, .long tb, .long tc, .long tp, .long tq, .long tr, .long ts, .int tsome, .ref tqL, .int tlet, .ref tqW, .ref tqO])), (tqA, .inl (cyJ, 40, .inr (.inl tla))), (tqB, .inl (cyJ, 40, .inr (.inl tlb))), (tqC, .inl (cyJ, 40, .inr (.inl tlc))), (tqL, .inl (cyJ, 7, .inr (.inl tlast))), (tqW, .inl (cyC, 40, .inl twd)), (tqO, .inl (cyI, 5, .inl topn))] sz)) (va_Qi (fun r (_ : Unit) => r = rv) (fun _ t => mc_Post (dC, dI) (va_A [(th, .inr (4, [.int tthr, .int tdd, .int tn, .ref tqA, .ref tqB, .ref tqC, .long ta, .long tb, .long tc, .long tp, .long tq, .long tr, .long ts, .int tsome, .ref tqL, .int tlet, .ref tqW, .ref tqO])), (tqA, .inl (cyJ, 40, .inr (.inl tla))), (tqB, .inl (cyJ, 40, .inr (.inl tlb))), (tqC, .inl (cyJ, 40, .inr (.inl tlc))), (tqL, .inl (cyJ, 7, .inr (.inl tlast))), (tqW, .inl (cyC, 40, .inl twd)), (tqO, .inl (cyI, 5, .inl topn))] sz) [(th, .inr (4, [.int tthr, .int tdd, .int tn, .ref tqA, .ref tqB, .ref tqC, .long ta', .long tb', .long tc', .long tp', .long tq', .long tr', .long ts', .int tsome, .ref tqL, .int tlet, .ref tqW, .ref tqO])), (tqA, .inl (cyJ, 40, .inr (.inl tla))), (tqB, .inl (cyJ, 40, .inr (.inl tlb))), (tqC, .inl (cyJ, 40, .inr (.inl tlc))), (tqL, .inl (cyJ, 7, .inr (.inl tlast))), (tqW, .inl (cyC, 40, .inl twd)), (tqO, .inl (cyI, 5, .inl topn))] t) (va_A [(th, .inr (4, [.int tthr, .int tdd, .int tn, .ref tqA, .ref tqB, .ref tqC, .long ta, .long tb, .long tc, .long tp, .long tq, .long tr, .long ts, .int tsome, .ref tqL, .int tlet, .ref tqW, .ref tqO])), (tqA, .inl (cyJ, 40, .inr (.inl tla))), (tqB, .inl (cyJ, 40, .inr (.inl tlb))), (tqC, .inl (cyJ, 40, .inr (.inl tlc))), (tqL, .inl (cyJ, 7, .inr (.inl tlast))), (tqW, .inl (cyC, 40, .inl twd)), (tqO, .inl (cyI, 5, .inl topn))] sz)) 0 0 (va_A [(th, .inr (4, [.int tthr, .int tdd, .int tn, .ref tqA, .ref tqB, .ref tqC, .long ta, .long tb, .long tc, .long tp, .long tq, .long tr, .long ts, .int tsome, .ref tqL, .int tlet, .ref tqW, .ref tqO])), (tqA, .inl (cyJ, 40, .inr (.inl tla))), (tqB, .inl (cyJ, 40, .inr (.inl tlb))), (tqC, .inl (cyJ, 40, .inr (.inl tlc))), (tqL, .inl (cyJ, 7, .inr (.inl tlast))), (tqW, .inl (cyC, 40, .inl twd)), (tqO, .inl (cyI, 5, .inl topn))] sz) := by
  refine Met.ofW (cc := cX4_product) (maxL := 9) (ret := (some .int)) (by decide +kernel) rfl ?_
  intro p e s m args below meth c s₁ B hml hv
  obtain ⟨rfl, hsz, hP, hK, hD0, hnw⟩ := hv
  have hx := B.exec
  have hb := B.bytes
  have hr := B.returns
  have hts := atoms_spec (ws := wsX4_product) B.pre
  have hown : s.vm.findClass RX4 = some m.cls := findClass_of_methodNamed B.named
  have hlocks := B.notSynchronized
  have hinX4 : ∀ w ∈ wsX40, w ∈ wsX4_product := by decide +kernel
  subst hsz
  have hD := hD0.self (sz := s.heap.size)
  generalize hAe : va_A [(th, .inr (4, [.int tthr, .int tdd, .int tn, .ref tqA, .ref tqB, .ref tqC, .long ta, .long tb, .long tc, .long tp, .long tq, .long tr, .long ts, .int tsome, .ref tqL, .int tlet, .ref tqW, .ref tqO])), (tqA, .inl (cyJ, 40, .inr (.inl tla))), (tqB, .inl (cyJ, 40, .inr (.inl tlb))), (tqC, .inl (cyJ, 40, .inr (.inl tlc))), (tqL, .inl (cyJ, 7, .inr (.inl tlast))), (tqW, .inl (cyC, 40, .inl twd)), (tqO, .inl (cyI, 5, .inl topn))] s.heap.size = A at hD ⊢
  have hA : ∀ q : Nat, s.heap.size ≤ q → A q := fun q h => by rw [← hAe]; exact Or.inr h
  have hS : va_S A s.heap s.heap [] := va_S.rf
  have hP : va_P (dC, dI) vwCl [(th, .inr (4, [.int tthr, .int tdd, .int tn, .ref tqA, .ref tqB, .ref tqC, .long ta, .long tb, .long tc, .long tp, .long tq, .long tr, .long ts, .int tsome, .ref tqL, .int tlet, .ref tqW, .ref tqO])), (tqA, .inl (cyJ, 40, .inr (.inl tla))), (tqB, .inl (cyJ, 40, .inr (.inl tlb))), (tqC, .inl (cyJ, 40, .inr (.inl tlc))), (tqL, .inl (cyJ, 7, .inr (.inl tlast))), (tqW, .inl (cyC, 40, .inl twd)), (tqO, .inl (cyI, 5, .inl topn))] s.heap := hP
  have hl := lv_entry ([.ref th, .int p0, .int p1]) (n := 9) (Nat.le_of_ble_eq_true rfl)
  rw [lg_entry_eq]
  generalize (lg_sl ([.ref th, .int p0, .int p1]) ++ List.replicate (9 - (lg_sl ([.ref th, .int p0, .int p1])).length) Slot.unset).toArray = ls at hl ⊢
  have hl : lv_has ls 9 [(0, .ref th), (1, .int p0), (2, .int p1)] := hl
  obtain ⟨QQ, hQQ⟩ : ∃ Q, Q = MQ below (va_Qi (fun r (_ : Unit) => r = rv) (fun _ t => mc_Post (dC, dI) A [(th, .inr (4, [.int tthr, .int tdd, .int tn, .ref tqA, .ref tqB, .ref tqC, .long ta', .long tb', .long tc', .long tp', .long tq', .long tr', .long ts', .int tsome, .ref tqL, .int tlet, .ref tqW, .ref tqO])), (tqA, .inl (cyJ, 40, .inr (.inl tla))), (tqB, .inl (cyJ, 40, .inr (.inl tlb))), (tqC, .inl (cyJ, 40, .inr (.inl tlc))), (tqL, .inl (cyJ, 7, .inr (.inl tlast))), (tqW, .inl (cyC, 40, .inl twd)), (tqO, .inl (cyI, 5, .inl topn))] t) A) ([Value.ref th, Value.int p0, Value.int p1] : List Value).toArray s 0 0 A := ⟨_, rfl⟩
  rw [← hQQ]
  have h := hf
  unfold f_X4_product at h
  refine lv_aload_n hx hb dX4_product_0 rfl (lv_at hl 0 rfl) ?_
  refine va_get (D := (dC, dI)) (ci := 4) (v := .ref tqA) (C := RX4) (T := TX4) (N := 18) hx hb hts hinX4 hown hK hP 0 rfl rfl 3 (by decide) (hts (.fieldLink RX4 13 "FormDeskModel" "listA" "[J") (by decide +kernel)) (fun _ h9 => h9) rfl dX4_product_1 ?_
  refine lv_iload_n hx hb dX4_product_4 rfl (lv_at hl 1 rfl) ?_
  obtain ⟨hn1, h⟩ := dm_gs h
  refine va_lald hx hb hK hP 1 1 rfl rfl hn1 dX4_product_5 ?_
  refine lv_topl (fun x2 ex2 => ?_)
  have h := dm_lu ex2 h
  refine lv_lstore_n (lv' := [(3, .long x2), (0, .ref th), (1, .int p0), (2, .int p1)]) hx hb dX4_product_6 rfl hl (by decide) rfl (fun ls hl => ?_)
  refine lv_aload_n hx hb dX4_product_7 rfl (lv_at hl 1 rfl) ?_
  refine lv_iload_n hx hb dX4_product_8 rfl (lv_at hl 3 rfl) ?_
  refine lv_lload_n hx hb dX4_product_9 rfl (lv_at hl 0 rfl) ?_
  obtain ⟨w3, w4, w5, w6, w7, w8, w9, hk10, h⟩ := dm_b7s h
  refine mc_v (wr := []) (va_runV (As := [.int p1, .long x2]) (rest := []) ⟨hx, hb, hml, hown, hts⟩ (c_X4_away l dC dI cyI cyJ cyC th tqA tqB tqC tqL tqW tqO s.heap.size tthr tdd tn tla tlb tlc ta tb tc tp tq tr ts tsome tlast tlet twd topn p1 x2 w3 w4 w5 w6 w7 w8 w9 hk10) (cwV 2 hts gX4_product_X4_away rfl rfl rfl (by decide +kernel) ⟨(Nat.le_of_ble_eq_true rfl), (Nat.le_of_ble_eq_true rfl)⟩) (mc_preV hK (hP.sub (ws' := [(th, .inr (4, [.int tthr, .int tdd, .int tn, .ref tqA, .ref tqB, .ref tqC, .long ta, .long tb, .long tc, .long tp, .long tq, .long tr, .long ts, .int tsome, .ref tqL, .int tlet, .ref tqW, .ref tqO])), (tqA, .inl (cyJ, 40, .inr (.inl tla))), (tqB, .inl (cyJ, 40, .inr (.inl tlb))), (tqC, .inl (cyJ, 40, .inr (.inl tlc))), (tqL, .inl (cyJ, 7, .inr (.inl tlast))), (tqW, .inl (cyC, 40, .inl twd)), (tqO, .inl (cyI, 5, .inl topn))]) [0, 1, 2, 3, 4, 5, 6] rfl) (hD.sub (ws' := [(th, .inr (4, [.int tthr, .int tdd, .int tn, .ref tqA, .ref tqB, .ref tqC, .long ta, .long tb, .long tc, .long tp, .long tq, .long tr, .long ts, .int tsome, .ref tqL, .int tlet, .ref tqW, .ref tqO])), (tqA, .inl (cyJ, 40, .inr (.inl tla))), (tqB, .inl (cyJ, 40, .inr (.inl tlb))), (tqC, .inl (cyJ, 40, .inr (.inl tlc))), (tqL, .inl (cyJ, 7, .inr (.inl tlast))), (tqW, .inl (cyC, 40, .inl twd)), (tqO, .inl (cyI, 5, .inl topn))]) [0, 1, 2, 3, 4, 5, 6] (by decide) rfl) hnw rfl rfl) rfl rfl hl.1 rfl (lv_room (Nat.le_of_ble_eq_true rfl)) dX4_product_10 ⟨Nat.zero_le _, Nat.zero_le _⟩) hP hD hS hA [0, 1, 2, 3, 4, 5, 6] [] rfl rfl rfl (by decide) (fun H locs hP hD hS => ?_)
  have hP : va_P (dC, dI) vwCl [(th, .inr (4, [.int tthr, .int tdd, .int tn, .ref tqA, .ref tqB, .ref tqC, .long w3, .long w4, .long w5, .long w6, .long w7, .long w8, .long w9, .int tsome, .ref tqL, .int tlet, .ref tqW, .ref tqO])), (tqA, .inl (cyJ, 40, .inr (.inl tla))), (tqB, .inl (cyJ, 40, .inr (.inl tlb))), (tqC, .inl (cyJ, 40, .inr (.inl tlc))), (tqL, .inl (cyJ, 7, .inr (.inl tlast))), (tqW, .inl (cyC, 40, .inl twd)), (tqO, .inl (cyI, 5, .inl topn))] H := hP
  have hD : va_D A [(th, .inr (4, [.int tthr, .int tdd, .int tn, .ref tqA, .ref tqB, .ref tqC, .long w3, .long w4, .long w5, .long w6, .long w7, .long w8, .long w9, .int tsome, .ref tqL, .int tlet, .ref tqW, .ref tqO])), (tqA, .inl (cyJ, 40, .inr (.inl tla))), (tqB, .inl (cyJ, 40, .inr (.inl tlb))), (tqC, .inl (cyJ, 40, .inr (.inl tlc))), (tqL, .inl (cyJ, 7, .inr (.inl tlast))), (tqW, .inl (cyC, 40, .inl twd)), (tqO, .inl (cyI, 5, .inl topn))] := hD
  refine lv_aload_n hx hb dX4_product_13 rfl (lv_at hl 1 rfl) ?_
  refine va_get (D := (dC, dI)) (ci := 4) (v := .long w3) (C := RX4) (T := TX4) (N := 18) hx hb hts hinX4 hown hK hP 0 rfl rfl 6 (by decide) (hts (.fieldLink RX4 70 "FormDeskModel" "a" "J") (by decide +kernel)) (fun _ h9 => h9) rfl dX4_product_14 ?_
  refine lv_lstore (lv' := [(5, .long w3), (3, .long x2), (0, .ref th), (1, .int p0), (2, .int p1)]) hx hb dX4_product_17 hl (by decide) rfl (fun ls hl => ?_)
  refine lv_aload_n hx hb dX4_product_19 rfl (lv_at hl 2 rfl) ?_
  refine va_get (D := (dC, dI)) (ci := 4) (v := .ref tqB) (C := RX4) (T := TX4) (N := 18) hx hb hts hinX4 hown hK hP 0 rfl rfl 4 (by decide) (hts (.fieldLink RX4 17 "FormDeskModel" "listB" "[J") (by decide +kernel)) (fun _ h9 => h9) rfl dX4_product_20 ?_
  refine lv_iload_n hx hb dX4_product_23 rfl (lv_at hl 3 rfl) ?_
  obtain ⟨hn11, h⟩ := dm_gs h
  refine va_lald hx hb hK hP 2 1 rfl rfl hn11 dX4_product_24 ?_
  refine lv_topl (fun x12 ex12 => ?_)
  have h := dm_lu ex12 h
  refine lv_lstore (lv' := [(7, .long x12), (5, .long w3), (3, .long x2), (0, .ref th), (1, .int p0), (2, .int p1)]) hx hb dX4_product_25 hl (by decide) rfl (fun ls hl => ?_)
  have L27 : ∀ (n27 : Nat) (v13 : Int64) (H : Heap) (locs : List Loc) (ls : Array Slot), f_X4_product_L27 tdd tn tla tlb tlc x2 w3 w4 n27 v13 = some (rv, ta', tb', tc', tp', tq', tr', ts') → va_P (dC, dI) vwCl [(th, .inr (4, [.int tthr, .int tdd, .int tn, .ref tqA, .ref tqB, .ref tqC, .long w3, .long w4, .long w5, .long w6, .long w7, .long w8, .long w9, .int tsome, .ref tqL, .int tlet, .ref tqW, .ref tqO])), (tqA, .inl (cyJ, 40, .inr (.inl tla))), (tqB, .inl (cyJ, 40, .inr (.inl tlb))), (tqC, .inl (cyJ, 40, .inr (.inl tlc))), (tqL, .inl (cyJ, 7, .inr (.inl tlast))), (tqW, .inl (cyC, 40, .inl twd)), (tqO, .inl (cyI, 5, .inl topn))] H → va_D A [(th, .inr (4, [.int tthr, .int tdd, .int tn, .ref tqA, .ref tqB, .ref tqC, .long w3, .long w4, .long w5, .long w6, .long w7, .long w8, .long w9, .int tsome, .ref tqL, .int tlet, .ref tqW, .ref tqO])), (tqA, .inl (cyJ, 40, .inr (.inl tla))), (tqB, .inl (cyJ, 40, .inr (.inl tlb))), (tqC, .inl (cyJ, 40, .inr (.inl tlc))), (tqL, .inl (cyJ, 7, .inr (.inl tlast))), (tqW, .inl (cyC, 40, .inl twd)), (tqO, .inl (cyI, 5, .inl topn))] → va_S A s.heap H locs → lv_has ls 9 [(7, .long v13), (5, .long w3), (3, .long x2), (0, .ref th), (1, .int p0), (2, .int p1)] → W p l e (headSpec wsX4_product { frames := 3, cells := 0, slots := 0, locals := 92 }).room s m ([Value.ref th, Value.int p0, Value.int p1] : List Value).toArray below meth c H locs 0 0 QQ (F0 m 27 ls []) := by
    intro n27
    induction n27 with
    | zero =>
      intro v13 H locs ls h
      exact nomatch (show (none : Option (Int32 × Int64 × Int64 × Int64 × Int64 × Int64 × Int64 × Int64)) = some _ from h)
    | succ n27 ih27 =>
      intro v13 H locs ls h hP hD hS hl
      rw [f_X4_product_L27] at h
      refine lv_lload hx hb dX4_product_27 (lv_at hl 0 rfl) ?_
      refine lv_aload_n hx hb dX4_product_29 rfl (lv_at hl 3 rfl) ?_
      refine va_get (D := (dC, dI)) (ci := 4) (v := .long w4) (C := RX4) (T := TX4) (N := 18) hx hb hts hinX4 hown hK hP 0 rfl rfl 7 (by decide) (hts (.fieldLink RX4 74 "FormDeskModel" "b" "J") (by decide +kernel)) (fun _ h9 => h9) rfl dX4_product_30 ?_
      refine lv_lsub hx hb dX4_product_33 ?_
      refine lv_ldc2 (v := 2) hx hb hown (hts (.constantLong RX4 92 (2)) (by decide +kernel)) dX4_product_34 ?_
      refine lv_lload hx hb dX4_product_37 (lv_at hl 1 rfl) ?_
      refine lv_lmul hx hb dX4_product_39 ?_
      obtain ⟨hn14, h⟩ := dm_gs h
      refine lv_lrem hx hb dX4_product_40 hn14 ?_
      refine lv_lconst (v := 0) hx hb dX4_product_41 (by decide) ?_
      refine mc_lif_eq (tgt := 59) hx hb dX4_product_42 dX4_product_43 (by decide) (fun hc15 => ?_) (fun hc15 => ?_)
      · have h := dm_t hc15 h
        refine lv_aload_n hx hb dX4_product_59 rfl (lv_at hl 3 rfl) ?_
        refine lv_lload_n hx hb dX4_product_60 rfl (lv_at hl 2 rfl) ?_
        refine lv_lload hx hb dX4_product_61 (lv_at hl 1 rfl) ?_
        refine lv_lmul hx hb dX4_product_63 ?_
        refine lv_lload hx hb dX4_product_64 (lv_at hl 0 rfl) ?_
        refine lv_lload hx hb dX4_product_66 (lv_at hl 0 rfl) ?_
        refine lv_lload hx hb dX4_product_68 (lv_at hl 0 rfl) ?_
        refine lv_lmul hx hb dX4_product_70 ?_
        refine lv_aload_n hx hb dX4_product_71 rfl (lv_at hl 3 rfl) ?_
        refine va_get (D := (dC, dI)) (ci := 4) (v := .int tdd) (C := RX4) (T := TX4) (N := 18) hx hb hts hinX4 hown hK hP 0 rfl rfl 1 (by decide) (hts (.fieldLink RX4 7 "FormDeskModel" "d" "I") (by decide +kernel)) (fun _ h9 => h9) rfl dX4_product_72 ?_
        refine lv_i2l (v := (tdd).toInt64) hx hb dX4_product_75 rfl ?_
        refine lv_lsub hx hb dX4_product_76 ?_
        refine lv_ldc2 (v := 4) hx hb hown (hts (.constantLong RX4 104 (4)) (by decide +kernel)) dX4_product_77 ?_
        refine lv_lload_n hx hb dX4_product_80 rfl (lv_at hl 2 rfl) ?_
        refine lv_lmul hx hb dX4_product_81 ?_
        refine lv_lload hx hb dX4_product_82 (lv_at hl 1 rfl) ?_
        refine lv_lmul hx hb dX4_product_84 ?_
        obtain ⟨hn16, h⟩ := dm_gs h
        refine lv_ldiv hx hb dX4_product_85 hn16 ?_
        obtain ⟨w17, w18, w19, w20, w21, w22, w23, hk24, h⟩ := dm_b7s h
        refine mc_v (wr := []) (va_runV (As := [.long (x2 * w3), .long v13, .long (((v13 * v13) - (tdd).toInt64) / (((4 : Int64) * x2) * w3))]) (rest := []) ⟨hx, hb, hml, hown, hts⟩ (c_X4_begin l dC dI cyI cyJ cyC th tqA tqB tqC tqL tqW tqO H.size tthr tdd tn tla tlb tlc w3 w4 w5 w6 w7 w8 w9 tsome tlast tlet twd topn (x2 * w3) v13 (((v13 * v13) - (tdd).toInt64) / (((4 : Int64) * x2) * w3)) w17 w18 w19 w20 w21 w22 w23 hk24) (cwV 3 hts gX4_product_X4_begin rfl rfl rfl (by decide +kernel) ⟨(Nat.le_of_ble_eq_true rfl), (Nat.le_of_ble_eq_true rfl)⟩) (mc_preV hK (hP.sub (ws' := [(th, .inr (4, [.int tthr, .int tdd, .int tn, .ref tqA, .ref tqB, .ref tqC, .long w3, .long w4, .long w5, .long w6, .long w7, .long w8, .long w9, .int tsome, .ref tqL, .int tlet, .ref tqW, .ref tqO])), (tqA, .inl (cyJ, 40, .inr (.inl tla))), (tqB, .inl (cyJ, 40, .inr (.inl tlb))), (tqC, .inl (cyJ, 40, .inr (.inl tlc))), (tqL, .inl (cyJ, 7, .inr (.inl tlast))), (tqW, .inl (cyC, 40, .inl twd)), (tqO, .inl (cyI, 5, .inl topn))]) [0, 1, 2, 3, 4, 5, 6] rfl) (hD.sub (ws' := [(th, .inr (4, [.int tthr, .int tdd, .int tn, .ref tqA, .ref tqB, .ref tqC, .long w3, .long w4, .long w5, .long w6, .long w7, .long w8, .long w9, .int tsome, .ref tqL, .int tlet, .ref tqW, .ref tqO])), (tqA, .inl (cyJ, 40, .inr (.inl tla))), (tqB, .inl (cyJ, 40, .inr (.inl tlb))), (tqC, .inl (cyJ, 40, .inr (.inl tlc))), (tqL, .inl (cyJ, 7, .inr (.inl tlast))), (tqW, .inl (cyC, 40, .inl twd)), (tqO, .inl (cyI, 5, .inl topn))]) [0, 1, 2, 3, 4, 5, 6] (by decide) rfl) hnw rfl rfl) rfl rfl hl.1 rfl (lv_room (Nat.le_of_ble_eq_true rfl)) dX4_product_86 ⟨Nat.zero_le _, Nat.zero_le _⟩) hP hD hS hA [0, 1, 2, 3, 4, 5, 6] [] rfl rfl rfl (by decide) (fun H locs hP hD hS => ?_)
        have hP : va_P (dC, dI) vwCl [(th, .inr (4, [.int tthr, .int tdd, .int tn, .ref tqA, .ref tqB, .ref tqC, .long w17, .long w18, .long w19, .long w20, .long w21, .long w22, .long w23, .int tsome, .ref tqL, .int tlet, .ref tqW, .ref tqO])), (tqA, .inl (cyJ, 40, .inr (.inl tla))), (tqB, .inl (cyJ, 40, .inr (.inl tlb))), (tqC, .inl (cyJ, 40, .inr (.inl tlc))), (tqL, .inl (cyJ, 7, .inr (.inl tlast))), (tqW, .inl (cyC, 40, .inl twd)), (tqO, .inl (cyI, 5, .inl topn))] H := hP
        have hD : va_D A [(th, .inr (4, [.int tthr, .int tdd, .int tn, .ref tqA, .ref tqB, .ref tqC, .long w17, .long w18, .long w19, .long w20, .long w21, .long w22, .long w23, .int tsome, .ref tqL, .int tlet, .ref tqW, .ref tqO])), (tqA, .inl (cyJ, 40, .inr (.inl tla))), (tqB, .inl (cyJ, 40, .inr (.inl tlb))), (tqC, .inl (cyJ, 40, .inr (.inl tlc))), (tqL, .inl (cyJ, 7, .inr (.inl tlast))), (tqW, .inl (cyC, 40, .inl twd)), (tqO, .inl (cyI, 5, .inl topn))] := hD
        refine lv_aload_n hx hb dX4_product_89 rfl (lv_at hl 3 rfl) ?_
        obtain ⟨r25, w26, w27, w28, w29, w30, w31, w32, hk33, h⟩ := dm_b8s h
        refine mc_i (wr := []) (va_runV (As := []) (rest := []) ⟨hx, hb, hml, hown, hts⟩ (c_X4_steps l dC dI cyI cyJ cyC th tqA tqB tqC tqL tqW tqO H.size tthr tdd tn tla tlb tlc w17 w18 w19 w20 w21 w22 w23 tsome tlast tlet twd topn r25 w26 w27 w28 w29 w30 w31 w32 hk33) (cwV 0 hts gX4_product_X4_steps rfl rfl rfl (by decide +kernel) ⟨(Nat.le_of_ble_eq_true rfl), (Nat.le_of_ble_eq_true rfl)⟩) (mc_preV hK (hP.sub (ws' := [(th, .inr (4, [.int tthr, .int tdd, .int tn, .ref tqA, .ref tqB, .ref tqC, .long w17, .long w18, .long w19, .long w20, .long w21, .long w22, .long w23, .int tsome, .ref tqL, .int tlet, .ref tqW, .ref tqO])), (tqA, .inl (cyJ, 40, .inr (.inl tla))), (tqB, .inl (cyJ, 40, .inr (.inl tlb))), (tqC, .inl (cyJ, 40, .inr (.inl tlc))), (tqL, .inl (cyJ, 7, .inr (.inl tlast))), (tqW, .inl (cyC, 40, .inl twd)), (tqO, .inl (cyI, 5, .inl topn))]) [0, 1, 2, 3, 4, 5, 6] rfl) (hD.sub (ws' := [(th, .inr (4, [.int tthr, .int tdd, .int tn, .ref tqA, .ref tqB, .ref tqC, .long w17, .long w18, .long w19, .long w20, .long w21, .long w22, .long w23, .int tsome, .ref tqL, .int tlet, .ref tqW, .ref tqO])), (tqA, .inl (cyJ, 40, .inr (.inl tla))), (tqB, .inl (cyJ, 40, .inr (.inl tlb))), (tqC, .inl (cyJ, 40, .inr (.inl tlc))), (tqL, .inl (cyJ, 7, .inr (.inl tlast))), (tqW, .inl (cyC, 40, .inl twd)), (tqO, .inl (cyI, 5, .inl topn))]) [0, 1, 2, 3, 4, 5, 6] (by decide) rfl) hnw rfl rfl) rfl rfl hl.1 rfl (lv_room (Nat.le_of_ble_eq_true rfl)) dX4_product_90 ⟨Nat.zero_le _, Nat.zero_le _⟩) hP hD hS hA [0, 1, 2, 3, 4, 5, 6] [] rfl rfl rfl (by decide) (fun H locs hP hD hS => ?_)
        have hP : va_P (dC, dI) vwCl [(th, .inr (4, [.int tthr, .int tdd, .int tn, .ref tqA, .ref tqB, .ref tqC, .long w26, .long w27, .long w28, .long w29, .long w30, .long w31, .long w32, .int tsome, .ref tqL, .int tlet, .ref tqW, .ref tqO])), (tqA, .inl (cyJ, 40, .inr (.inl tla))), (tqB, .inl (cyJ, 40, .inr (.inl tlb))), (tqC, .inl (cyJ, 40, .inr (.inl tlc))), (tqL, .inl (cyJ, 7, .inr (.inl tlast))), (tqW, .inl (cyC, 40, .inl twd)), (tqO, .inl (cyI, 5, .inl topn))] H := hP
        have hD : va_D A [(th, .inr (4, [.int tthr, .int tdd, .int tn, .ref tqA, .ref tqB, .ref tqC, .long w26, .long w27, .long w28, .long w29, .long w30, .long w31, .long w32, .int tsome, .ref tqL, .int tlet, .ref tqW, .ref tqO])), (tqA, .inl (cyJ, 40, .inr (.inl tla))), (tqB, .inl (cyJ, 40, .inr (.inl tlb))), (tqC, .inl (cyJ, 40, .inr (.inl tlc))), (tqL, .inl (cyJ, 7, .inr (.inl tlast))), (tqW, .inl (cyC, 40, .inl twd)), (tqO, .inl (cyI, 5, .inl topn))] := hD
        refine lv_pop hx hb dX4_product_93 rfl ?_
        refine lv_aload_n hx hb dX4_product_94 rfl (lv_at hl 3 rfl) ?_
        refine lv_aload_n hx hb dX4_product_95 rfl (lv_at hl 3 rfl) ?_
        refine va_get (D := (dC, dI)) (ci := 4) (v := .long w26) (C := RX4) (T := TX4) (N := 18) hx hb hts hinX4 hown hK hP 0 rfl rfl 6 (by decide) (hts (.fieldLink RX4 70 "FormDeskModel" "a" "J") (by decide +kernel)) (fun _ h9 => h9) rfl dX4_product_96 ?_
        refine lv_aload_n hx hb dX4_product_99 rfl (lv_at hl 3 rfl) ?_
        refine va_get (D := (dC, dI)) (ci := 4) (v := .long w27) (C := RX4) (T := TX4) (N := 18) hx hb hts hinX4 hown hK hP 0 rfl rfl 7 (by decide) (hts (.fieldLink RX4 74 "FormDeskModel" "b" "J") (by decide +kernel)) (fun _ h9 => h9) rfl dX4_product_100 ?_
        refine lv_aload_n hx hb dX4_product_103 rfl (lv_at hl 3 rfl) ?_
        refine va_get (D := (dC, dI)) (ci := 4) (v := .long w28) (C := RX4) (T := TX4) (N := 18) hx hb hts hinX4 hown hK hP 0 rfl rfl 8 (by decide) (hts (.fieldLink RX4 77 "FormDeskModel" "c" "J") (by decide +kernel)) (fun _ h9 => h9) rfl dX4_product_104 ?_
        obtain ⟨r34, hk35, h⟩ := dm_b1s h
        refine mc_i (wr := []) (va_runV (As := [.long w26, .long w27, .long w28]) (rest := []) ⟨hx, hb, hml, hown, hts⟩ (c_X4_classOf l dC dI cyI cyJ cyC th tqA tqB tqC tqL tqW tqO H.size tthr tdd tn tla tlb tlc w26 w27 w28 w29 w30 w31 w32 tsome tlast tlet twd topn w26 w27 w28 r34 hk35) (cwV 3 hts gX4_product_X4_classOf rfl rfl rfl (by decide +kernel) ⟨(Nat.le_of_ble_eq_true rfl), (Nat.le_of_ble_eq_true rfl)⟩) (mc_preV hK (hP.sub (ws' := [(th, .inr (4, [.int tthr, .int tdd, .int tn, .ref tqA, .ref tqB, .ref tqC, .long w26, .long w27, .long w28, .long w29, .long w30, .long w31, .long w32, .int tsome, .ref tqL, .int tlet, .ref tqW, .ref tqO])), (tqA, .inl (cyJ, 40, .inr (.inl tla))), (tqB, .inl (cyJ, 40, .inr (.inl tlb))), (tqC, .inl (cyJ, 40, .inr (.inl tlc))), (tqL, .inl (cyJ, 7, .inr (.inl tlast))), (tqW, .inl (cyC, 40, .inl twd)), (tqO, .inl (cyI, 5, .inl topn))]) [0, 1, 2, 3, 4, 5, 6] rfl) (hD.sub (ws' := [(th, .inr (4, [.int tthr, .int tdd, .int tn, .ref tqA, .ref tqB, .ref tqC, .long w26, .long w27, .long w28, .long w29, .long w30, .long w31, .long w32, .int tsome, .ref tqL, .int tlet, .ref tqW, .ref tqO])), (tqA, .inl (cyJ, 40, .inr (.inl tla))), (tqB, .inl (cyJ, 40, .inr (.inl tlb))), (tqC, .inl (cyJ, 40, .inr (.inl tlc))), (tqL, .inl (cyJ, 7, .inr (.inl tlast))), (tqW, .inl (cyC, 40, .inl twd)), (tqO, .inl (cyI, 5, .inl topn))]) [0, 1, 2, 3, 4, 5, 6] (by decide) rfl) hnw rfl rfl) rfl rfl hl.1 rfl (lv_room (Nat.le_of_ble_eq_true rfl)) dX4_product_107 ⟨Nat.zero_le _, Nat.zero_le _⟩) hP hD hS hA [0, 1, 2, 3, 4, 5, 6] [] rfl rfl rfl (by decide) (fun H locs hP hD hS => ?_)
        have hP : va_P (dC, dI) vwCl [(th, .inr (4, [.int tthr, .int tdd, .int tn, .ref tqA, .ref tqB, .ref tqC, .long w26, .long w27, .long w28, .long w29, .long w30, .long w31, .long w32, .int tsome, .ref tqL, .int tlet, .ref tqW, .ref tqO])), (tqA, .inl (cyJ, 40, .inr (.inl tla))), (tqB, .inl (cyJ, 40, .inr (.inl tlb))), (tqC, .inl (cyJ, 40, .inr (.inl tlc))), (tqL, .inl (cyJ, 7, .inr (.inl tlast))), (tqW, .inl (cyC, 40, .inl twd)), (tqO, .inl (cyI, 5, .inl topn))] H := hP
        have hD : va_D A [(th, .inr (4, [.int tthr, .int tdd, .int tn, .ref tqA, .ref tqB, .ref tqC, .long w26, .long w27, .long w28, .long w29, .long w30, .long w31, .long w32, .int tsome, .ref tqL, .int tlet, .ref tqW, .ref tqO])), (tqA, .inl (cyJ, 40, .inr (.inl tla))), (tqB, .inl (cyJ, 40, .inr (.inl tlb))), (tqC, .inl (cyJ, 40, .inr (.inl tlc))), (tqL, .inl (cyJ, 7, .inr (.inl tlast))), (tqW, .inl (cyC, 40, .inl twd)), (tqO, .inl (cyI, 5, .inl topn))] := hD
        obtain ⟨hE0, hE1, hE2, hE3, hE4, hE5, hE6, hE7⟩ := dm_i8 h
        subst hE0; subst hE1; subst hE2; subst hE3; subst hE4; subst hE5; subst hE6; subst hE7
        rw [hQQ]
        have hP9 := hP.sub (ws' := [(th, .inr (4, [.int tthr, .int tdd, .int tn, .ref tqA, .ref tqB, .ref tqC, .long w26, .long w27, .long w28, .long w29, .long w30, .long w31, .long w32, .int tsome, .ref tqL, .int tlet, .ref tqW, .ref tqO])), (tqA, .inl (cyJ, 40, .inr (.inl tla))), (tqB, .inl (cyJ, 40, .inr (.inl tlb))), (tqC, .inl (cyJ, 40, .inr (.inl tlc))), (tqL, .inl (cyJ, 7, .inr (.inl tlast))), (tqW, .inl (cyC, 40, .inl twd)), (tqO, .inl (cyI, 5, .inl topn))]) [0, 1, 2, 3, 4, 5, 6] rfl
        have hD9 := hD.sub (ws' := [(th, .inr (4, [.int tthr, .int tdd, .int tn, .ref tqA, .ref tqB, .ref tqC, .long w26, .long w27, .long w28, .long w29, .long w30, .long w31, .long w32, .int tsome, .ref tqL, .int tlet, .ref tqW, .ref tqO])), (tqA, .inl (cyJ, 40, .inr (.inl tla))), (tqB, .inl (cyJ, 40, .inr (.inl tlb))), (tqC, .inl (cyJ, 40, .inr (.inl tlc))), (tqL, .inl (cyJ, 7, .inr (.inl tlast))), (tqW, .inl (cyC, 40, .inl twd)), (tqO, .inl (cyI, 5, .inl topn))]) [0, 1, 2, 3, 4, 5, 6] (by decide) rfl
        exact W.iret (v := r34) hx hb hr (fun t ht hW => ⟨⟨r34, (), rfl, rfl, by rw [ht]; exact hP9, hD9⟩, hS.F ht⟩) hS.2.2 dX4_product_110
      · have h := dm_f hc15 h
        refine lv_lload hx hb dX4_product_46 (lv_at hl 0 rfl) ?_
        refine lv_ldc2 (v := 2) hx hb hown (hts (.constantLong RX4 92 (2)) (by decide +kernel)) dX4_product_48 ?_
        refine lv_lload_n hx hb dX4_product_51 rfl (lv_at hl 2 rfl) ?_
        refine lv_lmul hx hb dX4_product_52 ?_
        refine lv_ladd hx hb dX4_product_53 ?_
        refine lv_topl (fun x36 ex36 => ?_)
        have h := dm_lu ex36 h
        refine lv_lstore (lv' := [(7, .long x36), (5, .long w3), (3, .long x2), (0, .ref th), (1, .int p0), (2, .int p1)]) hx hb dX4_product_54 hl (by decide) rfl (fun ls hl => ?_)
        refine lv_goto (tgt := 27) hx hb dX4_product_56 (by decide) ?_
        exact ih27 x36 H _ ls h (hP.sub [0, 1, 2, 3, 4, 5, 6] rfl) (hD.sub [0, 1, 2, 3, 4, 5, 6] (by decide) rfl) hS (lv_sub hl [0, 1, 2, 3, 4, 5] rfl)
  exact L27 100000 x12 H _ ls h hP hD hS hl
