def f_X4_word_L16 (tdd : Int32) (tn : Int32) (tla : Nat → Int64) (tlb : Nat → Int64) (tlc : Nat → Int64) (tlet : Int32) (twd : Nat → Int32)  : Nat → Int32 → Int32 → Int32 → Int32 → Int64 → Int64 → Int64 → Int64 → Int64 → Int64 → Int64 → (Nat → Int32) → Option (Int32 × Int32 × Int64 × Int64 × Int64 × Int64 × Int64 × Int64 × Int64 × (Nat → Int32))
  | 0, _, _, _, _, _, _, _, _, _, _, _, _ => none
  | n + 1, v2, v3, v4, v5, v6, v7, v8, v9, v10, v11, v12, v13 =>
    if tlet ≤ v2 then
      if v5 ≤ 0 then
        if v3 = 0 then
          dm_b8 (f_X4_join tdd tn tla tlb tlc v6 v7 v8 v9 v10 v11 v12 v13 (0 : Int32) v4) fun w17 w18 w19 w20 w21 w22 w23 w24 =>
          dm_g (¬ ((0 : Int32) < 0 ∨ 5 ≤ ((0 : Int32)).toNatClampNeg)) <|
          some ((w24 ((0 : Int32)).toNatClampNeg), (0 : Int32), w17, w18, w19, w20, w21, w22, w23, w24)
        else
          dm_b2 (f_X4_refuse (2 : Int32)) fun r27 w28 =>
          some (r27, w28, v6, v7, v8, v9, v10, v11, v12, v13)
      else
        dm_b2 (f_X4_refuse (1 : Int32)) fun r30 w31 =>
        some (r30, w31, v6, v7, v8, v9, v10, v11, v12, v13)
    else
      dm_g (¬ (v2 < 0 ∨ 40 ≤ (v2).toNatClampNeg)) <|
      dm_let (twd (v2).toNatClampNeg) fun x34 =>
      dm_b1 (f_X4_isDigit x34) fun r35 =>
      if r35 = 0 then
        dm_b8 (f_X4_join tdd tn tla tlb tlc v6 v7 v8 v9 v10 v11 v12 v13 v5 v4) fun w38 w39 w40 w41 w42 w43 w44 w45 =>
        if x34 = (40 : Int32) then
          if v5 = (4 : Int32) then
            dm_b2 (f_X4_refuse (1 : Int32)) fun r168 w169 =>
            some (r168, w169, w38, w39, w40, w41, w42, w43, w44, w45)
          else
            dm_let (v5 + (1 : Int32)) fun x165 =>
            dm_g (¬ (x165 < 0 ∨ 5 ≤ (x165).toNatClampNeg)) <|
            dm_let (v2 + (1 : Int32)) fun x167 =>
            f_X4_word_L16 tdd tn tla tlb tlc tlet twd n x167 v3 (-1 : Int32) x165 w38 w39 w40 w41 w42 w43 w44 (upd w45 (x165).toNatClampNeg (0 : Int32))
        else
          if x34 = (41 : Int32) then
            if v5 = 0 then
              dm_b2 (f_X4_refuse (1 : Int32)) fun r161 w162 =>
              some (r161, w162, w38, w39, w40, w41, w42, w43, w44, w45)
            else
              dm_g (¬ (v5 < 0 ∨ 5 ≤ (v5).toNatClampNeg)) <|
              dm_let (w45 (v5).toNatClampNeg) fun x158 =>
              dm_let (v5 + (-1 : Int32)) fun x159 =>
              dm_let (v2 + (1 : Int32)) fun x160 =>
              f_X4_word_L16 tdd tn tla tlb tlc tlet twd n x160 v3 x158 x159 w38 w39 w40 w41 w42 w43 w44 w45
          else
            if x34 < (97 : Int32) then
              dm_let (x34 - (65 : Int32)) fun x50 =>
              if v3 = 0 then
                dm_b1 (f_X4_isClass tn x50) fun r68 =>
                if r68 = 0 then
                  dm_b1 (f_X4_isClass tn x50) fun r87 =>
                  if r87 = 0 then
                    dm_let (v2 + (1 : Int32)) fun x102 =>
                    f_X4_word_L16 tdd tn tla tlb tlc tlet twd n x102 (1 : Int32) (0 : Int32) v5 w38 w39 w40 w41 w42 w43 w44 w45
                  else
                    if x34 < (97 : Int32) then
                      dm_let (v2 + (1 : Int32)) fun x91 =>
                      f_X4_word_L16 tdd tn tla tlb tlc tlet twd n x91 (1 : Int32) x50 v5 w38 w39 w40 w41 w42 w43 w44 w45
                    else
                      dm_b8 (f_X4_inverseOf tdd tn tla tlb tlc w38 w39 w40 w41 w42 w43 w44 x50) fun r92 w93 w94 w95 w96 w97 w98 w99 =>
                      dm_let (v2 + (1 : Int32)) fun x101 =>
                      f_X4_word_L16 tdd tn tla tlb tlc tlet twd n x101 (1 : Int32) r92 v5 w93 w94 w95 w96 w97 w98 w99 w45
                else
                  dm_b1 (f_X4_isClass tn x50) fun r71 =>
                  if r71 = 0 then
                    dm_let (v2 + (1 : Int32)) fun x86 =>
                    f_X4_word_L16 tdd tn tla tlb tlc tlet twd n x86 (0 : Int32) (0 : Int32) v5 w38 w39 w40 w41 w42 w43 w44 w45
                  else
                    if x34 < (97 : Int32) then
                      dm_let (v2 + (1 : Int32)) fun x75 =>
                      f_X4_word_L16 tdd tn tla tlb tlc tlet twd n x75 (0 : Int32) x50 v5 w38 w39 w40 w41 w42 w43 w44 w45
                    else
                      dm_b8 (f_X4_inverseOf tdd tn tla tlb tlc w38 w39 w40 w41 w42 w43 w44 x50) fun r76 w77 w78 w79 w80 w81 w82 w83 =>
                      dm_let (v2 + (1 : Int32)) fun x85 =>
                      f_X4_word_L16 tdd tn tla tlb tlc tlet twd n x85 (0 : Int32) r76 v5 w77 w78 w79 w80 w81 w82 w83 w45
              else
                dm_b1 (f_X4_isClass tn x50) fun r52 =>
                if r52 = 0 then
                  dm_let (v2 + (1 : Int32)) fun x67 =>
                  f_X4_word_L16 tdd tn tla tlb tlc tlet twd n x67 (1 : Int32) (0 : Int32) v5 w38 w39 w40 w41 w42 w43 w44 w45
                else
                  if x34 < (97 : Int32) then
                    dm_let (v2 + (1 : Int32)) fun x56 =>
                    f_X4_word_L16 tdd tn tla tlb tlc tlet twd n x56 (1 : Int32) x50 v5 w38 w39 w40 w41 w42 w43 w44 w45
                  else
                    dm_b8 (f_X4_inverseOf tdd tn tla tlb tlc w38 w39 w40 w41 w42 w43 w44 x50) fun r57 w58 w59 w60 w61 w62 w63 w64 =>
                    dm_let (v2 + (1 : Int32)) fun x66 =>
                    f_X4_word_L16 tdd tn tla tlb tlc tlet twd n x66 (1 : Int32) r57 v5 w58 w59 w60 w61 w62 w63 w64 w45
            else
              dm_let (x34 - (97 : Int32)) fun x103 =>
              if v3 = 0 then
                dm_b1 (f_X4_isClass tn x103) fun r121 =>
                if r121 = 0 then
                  dm_b1 (f_X4_isClass tn x103) fun r140 =>
                  if r140 = 0 then
                    dm_let (v2 + (1 : Int32)) fun x155 =>
                    f_X4_word_L16 tdd tn tla tlb tlc tlet twd n x155 (1 : Int32) (0 : Int32) v5 w38 w39 w40 w41 w42 w43 w44 w45
                  else
                    if x34 < (97 : Int32) then
                      dm_let (v2 + (1 : Int32)) fun x144 =>
                      f_X4_word_L16 tdd tn tla tlb tlc tlet twd n x144 (1 : Int32) x103 v5 w38 w39 w40 w41 w42 w43 w44 w45
                    else
                      dm_b8 (f_X4_inverseOf tdd tn tla tlb tlc w38 w39 w40 w41 w42 w43 w44 x103) fun r145 w146 w147 w148 w149 w150 w151 w152 =>
                      dm_let (v2 + (1 : Int32)) fun x154 =>
                      f_X4_word_L16 tdd tn tla tlb tlc tlet twd n x154 (1 : Int32) r145 v5 w146 w147 w148 w149 w150 w151 w152 w45
                else
                  dm_b1 (f_X4_isClass tn x103) fun r124 =>
                  if r124 = 0 then
                    dm_let (v2 + (1 : Int32)) fun x139 =>
                    f_X4_word_L16 tdd tn tla tlb tlc tlet twd n x139 (0 : Int32) (0 : Int32) v5 w38 w39 w40 w41 w42 w43 w44 w45
                  else
                    if x34 < (97 : Int32) then
                      dm_let (v2 + (1 : Int32)) fun x128 =>
                      f_X4_word_L16 tdd tn tla tlb tlc tlet twd n x128 (0 : Int32) x103 v5 w38 w39 w40 w41 w42 w43 w44 w45
                    else
                      dm_b8 (f_X4_inverseOf tdd tn tla tlb tlc w38 w39 w40 w41 w42 w43 w44 x103) fun r129 w130 w131 w132 w133 w134 w135 w136 =>
                      dm_let (v2 + (1 : Int32)) fun x138 =>
                      f_X4_word_L16 tdd tn tla tlb tlc tlet twd n x138 (0 : Int32) r129 v5 w130 w131 w132 w133 w134 w135 w136 w45
              else
                dm_b1 (f_X4_isClass tn x103) fun r105 =>
                if r105 = 0 then
                  dm_let (v2 + (1 : Int32)) fun x120 =>
                  f_X4_word_L16 tdd tn tla tlb tlc tlet twd n x120 (1 : Int32) (0 : Int32) v5 w38 w39 w40 w41 w42 w43 w44 w45
                else
                  if x34 < (97 : Int32) then
                    dm_let (v2 + (1 : Int32)) fun x109 =>
                    f_X4_word_L16 tdd tn tla tlb tlc tlet twd n x109 (1 : Int32) x103 v5 w38 w39 w40 w41 w42 w43 w44 w45
                  else
                    dm_b8 (f_X4_inverseOf tdd tn tla tlb tlc w38 w39 w40 w41 w42 w43 w44 x103) fun r110 w111 w112 w113 w114 w115 w116 w117 =>
                    dm_let (v2 + (1 : Int32)) fun x119 =>
                    f_X4_word_L16 tdd tn tla tlb tlc tlet twd n x119 (1 : Int32) r110 v5 w111 w112 w113 w114 w115 w116 w117 w45
      else
        if v4 = (-1 : Int32) then
          dm_b2 (f_X4_refuse (1 : Int32)) fun r191 w192 =>
          some (r191, w192, v6, v7, v8, v9, v10, v11, v12, v13)
        else
          dm_b8 (f_X4_raised tdd tn tla tlb tlc v6 v7 v8 v9 v10 v11 v12 v4 (x34 - (48 : Int32))) fun r172 w173 w174 w175 w176 w177 w178 w179 =>
          dm_b8 (f_X4_join tdd tn tla tlb tlc w173 w174 w175 w176 w177 w178 w179 v13 v5 r172) fun w181 w182 w183 w184 w185 w186 w187 w188 =>
          dm_let (v2 + (1 : Int32)) fun x190 =>
          f_X4_word_L16 tdd tn tla tlb tlc tlet twd n x190 v3 (-1 : Int32) v5 w181 w182 w183 w184 w185 w186 w187 w188
def f_X4_word (tdd : Int32) (tn : Int32) (tla : Nat → Int64) (tlb : Nat → Int64) (tlc : Nat → Int64) (ta : Int64) (tb : Int64) (tc : Int64) (tp : Int64) (tq : Int64) (tr : Int64) (ts : Int64) (tlet : Int32) (twd : Nat → Int32) (topn : Nat → Int32) : Option (Int32 × Int32 × Int64 × Int64 × Int64 × Int64 × Int64 × Int64 × Int64 × (Nat → Int32)) :=
  dm_g (¬ ((0 : Int32) < 0 ∨ 5 ≤ ((0 : Int32)).toNatClampNeg)) <|
  f_X4_word_L16 tdd tn tla tlb tlc tlet twd 100000 (0 : Int32) (0 : Int32) (-1 : Int32) (0 : Int32) ta tb tc tp tq tr ts (upd topn ((0 : Int32)).toNatClampNeg (0 : Int32))
set_option maxHeartbeats 4000000 in
set_option maxRecDepth 100000 in
theorem c_X4_word (l : Launch) (dC : Nat → ClassId) (dI : Nat → Nat → Nat) (cyI cyJ cyC : ClassId) (th tqA tqB tqC tqL tqW tqO : Nat) (sz : Nat) (tthr : Int32) (tdd : Int32) (tn : Int32) (tla : Nat → Int64) (tlb : Nat → Int64) (tlc : Nat → Int64) (ta : Int64) (tb : Int64) (tc : Int64) (tp : Int64) (tq : Int64) (tr : Int64) (ts : Int64) (tsome : Int32) (tlast : Nat → Int64) (tlet : Int32) (twd : Nat → Int32) (topn : Nat → Int32)  (rv : Int32) (tthr' : Int32) (ta' : Int64) (tb' : Int64) (tc' : Int64) (tp' : Int64) (tq' : Int64) (tr' : Int64) (ts' : Int64) (topn' : Nat → Int32) (hf : f_X4_word tdd tn tla tlb tlc ta tb tc tp tq tr ts tlet twd topn = some (rv, tthr', ta', tb', tc', tp', tq', tr', ts', topn')) : Met l yX4_word wsX4_word { frames := 6, cells := 0, slots := 0, locals := 169 } (va_Pc [.ref th] (mc_Pre (dC, dI) (mc_tys cyI cyJ cyC) [(th, .inr (4, [.int tthr, .int tdd, .int tn, .ref tqA, .ref tqB, .ref tqC, .long ta, .long tb, .long tc, .long tp, .long tq, .long tr, .long ts, .int tsome, .ref tqL, .int tlet, .ref tqW, .ref tqO])), (tqA, .inl (cyJ, 40, .inr (.inl tla))), (tqB, .inl (cyJ, 40, .inr (.inl tlb))), (tqC, .inl (cyJ, 40, .inr (.inl tlc))), (tqL, .inl (cyJ, 7, .inr (.inl tlast))), (tqW, .inl (cyC, 40, .inl twd)), (tqO, .inl (cyI, 5, .inl topn))] sz)) (va_Qi (fun r (_ : Unit) => r = rv) (fun _ t => mc_Post (dC, dI) (va_A [(th, .inr (4, [.int tthr, .int tdd, .int tn, .ref tqA, .ref tqB, .ref tqC, .long ta, .long tb, .long tc, .long tp, .long tq, .long tr, .long ts, .int tsome, .ref tqL, .int tlet, .ref tqW, .ref tqO])), (tqA, .inl (cyJ, 40, .inr (.inl tla))), (tqB, .inl (cyJ, 40, .inr (.inl tlb))), (tqC, .inl (cyJ, 40, .inr (.inl tlc))), (tqL, .inl (cyJ, 7, .inr (.inl tlast))), (tqW, .inl (cyC, 40, .inl twd)), (tqO, .inl (cyI, 5, .inl topn))] sz) [(th, .inr (4, [.int tthr', .int tdd, .int tn, .ref tqA, .ref tqB, .ref tqC, .long ta', .long tb', .long tc', .long tp', .long tq', .long tr', .long ts', .int tsome, .ref tqL, .int tlet, .ref tqW, .ref tqO])), (tqA, .inl (cyJ, 40, .inr (.inl tla))), (tqB, .inl (cyJ, 40, .inr (.inl tlb))), (tqC, .inl (cyJ, 40, .inr (.inl tlc))), (tqL, .inl (cyJ, 7, .inr (.inl tlast))), (tqW, .inl (cyC, 40, .inl twd)), (tqO, .inl (cyI, 5, .inl topn'))] t) (va_A [(th, .inr (4, [.int tthr, .int tdd, .int tn, .ref tqA, .ref tqB, .ref tqC, .long ta, .long tb, .long tc, .long tp, .long tq, .long tr, .long ts, .int tsome, .ref tqL, .int tlet, .ref tqW, .ref tqO])), (tqA, .inl (cyJ, 40, .inr (.inl tla))), (tqB, .inl (cyJ, 40, .inr (.inl tlb))), (tqC, .inl (cyJ, 40, .inr (.inl tlc))), (tqL, .inl (cyJ, 7, .inr (.inl tlast))), (tqW, .inl (cyC, 40, .inl twd)), (tqO, .inl (cyI, 5, .inl topn))] sz)) 0 0 (va_A [(th, .inr (4, [.int tthr, .int tdd, .int tn, .ref tqA, .ref tqB, .ref tqC, .long ta, .long tb, .long tc, .long tp, .long tq, .long tr, .long ts, .int tsome, .ref tqL, .int tlet, .ref tqW, .ref tqO])), (tqA, .inl (cyJ, 40, .inr (.inl tla))), (tqB, .inl (cyJ, 40, .inr (.inl tlb))), (tqC, .inl (cyJ, 40, .inr (.inl tlc))), (tqL, .inl (cyJ, 7, .inr (.inl tlast))), (tqW, .inl (cyC, 40, .inl twd)), (tqO, .inl (cyI, 5, .inl topn))] sz) := by
  refine Met.ofW (cc := cX4_word) (maxL := 7) (ret := (some .int)) (by decide +kernel) rfl ?_
  intro p e s m args below meth c s₁ B hml hv
  obtain ⟨rfl, hsz, hP, hK, hD0, hnw⟩ := hv
  have hx := B.exec
  have hb := B.bytes
  have hr := B.returns
  have hts := atoms_spec (ws := wsX4_word) B.pre
  have hown : s.vm.findClass RX4 = some m.cls := findClass_of_methodNamed B.named
  have hlocks := B.notSynchronized
  have hinX4 : ∀ w ∈ wsX40, w ∈ wsX4_word := by decide +kernel
  subst hsz
  have hD := hD0.self (sz := s.heap.size)
  generalize hAe : va_A [(th, .inr (4, [.int tthr, .int tdd, .int tn, .ref tqA, .ref tqB, .ref tqC, .long ta, .long tb, .long tc, .long tp, .long tq, .long tr, .long ts, .int tsome, .ref tqL, .int tlet, .ref tqW, .ref tqO])), (tqA, .inl (cyJ, 40, .inr (.inl tla))), (tqB, .inl (cyJ, 40, .inr (.inl tlb))), (tqC, .inl (cyJ, 40, .inr (.inl tlc))), (tqL, .inl (cyJ, 7, .inr (.inl tlast))), (tqW, .inl (cyC, 40, .inl twd)), (tqO, .inl (cyI, 5, .inl topn))] s.heap.size = A at hD ⊢
  have hA : ∀ q : Nat, s.heap.size ≤ q → A q := fun q h => by rw [← hAe]; exact Or.inr h
  have hS : va_S A s.heap s.heap [] := va_S.rf
  have hP : va_P (dC, dI) vwCl [(th, .inr (4, [.int tthr, .int tdd, .int tn, .ref tqA, .ref tqB, .ref tqC, .long ta, .long tb, .long tc, .long tp, .long tq, .long tr, .long ts, .int tsome, .ref tqL, .int tlet, .ref tqW, .ref tqO])), (tqA, .inl (cyJ, 40, .inr (.inl tla))), (tqB, .inl (cyJ, 40, .inr (.inl tlb))), (tqC, .inl (cyJ, 40, .inr (.inl tlc))), (tqL, .inl (cyJ, 7, .inr (.inl tlast))), (tqW, .inl (cyC, 40, .inl twd)), (tqO, .inl (cyI, 5, .inl topn))] s.heap := hP
  have hl := lv_entry ([.ref th]) (n := 7) (Nat.le_of_ble_eq_true rfl)
  rw [lg_entry_eq]
  generalize (lg_sl ([.ref th]) ++ List.replicate (7 - (lg_sl ([.ref th])).length) Slot.unset).toArray = ls at hl ⊢
  have hl : lv_has ls 7 [(0, .ref th)] := hl
  obtain ⟨QQ, hQQ⟩ : ∃ Q, Q = MQ below (va_Qi (fun r (_ : Unit) => r = rv) (fun _ t => mc_Post (dC, dI) A [(th, .inr (4, [.int tthr', .int tdd, .int tn, .ref tqA, .ref tqB, .ref tqC, .long ta', .long tb', .long tc', .long tp', .long tq', .long tr', .long ts', .int tsome, .ref tqL, .int tlet, .ref tqW, .ref tqO])), (tqA, .inl (cyJ, 40, .inr (.inl tla))), (tqB, .inl (cyJ, 40, .inr (.inl tlb))), (tqC, .inl (cyJ, 40, .inr (.inl tlc))), (tqL, .inl (cyJ, 7, .inr (.inl tlast))), (tqW, .inl (cyC, 40, .inl twd)), (tqO, .inl (cyI, 5, .inl topn'))] t) A) ([Value.ref th] : List Value).toArray s 0 0 A := ⟨_, rfl⟩
  rw [← hQQ]
  have h := hf
  unfold f_X4_word at h
  refine lv_iconst (v := 0) hx hb dX4_word_0 (by decide) ?_
  refine lv_istore_n (lv' := [(1, .int (0 : Int32)), (0, .ref th)]) hx hb dX4_word_1 rfl hl (by decide) rfl (fun ls hl => ?_)
  refine lv_iconst (v := -1) hx hb dX4_word_2 (by decide) ?_
  refine lv_istore_n (lv' := [(2, .int (-1 : Int32)), (1, .int (0 : Int32)), (0, .ref th)]) hx hb dX4_word_3 rfl hl (by decide) rfl (fun ls hl => ?_)
  refine lv_iconst (v := 0) hx hb dX4_word_4 (by decide) ?_
  refine lv_istore_n (lv' := [(3, .int (0 : Int32)), (2, .int (-1 : Int32)), (1, .int (0 : Int32)), (0, .ref th)]) hx hb dX4_word_5 rfl hl (by decide) rfl (fun ls hl => ?_)
  refine lv_aload_n hx hb dX4_word_6 rfl (lv_at hl 3 rfl) ?_
  refine va_get (D := (dC, dI)) (ci := 4) (v := .ref tqO) (C := RX4) (T := TX4) (N := 18) hx hb hts hinX4 hown hK hP 0 rfl rfl 17 (by decide) (hts (.fieldLink RX4 30 "FormDeskModel" "open" "[I") (by decide +kernel)) (fun _ h9 => h9) rfl dX4_word_7 ?_
  refine lv_iconst (v := 0) hx hb dX4_word_10 (by decide) ?_
  refine lv_iconst (v := 0) hx hb dX4_word_11 (by decide) ?_
  obtain ⟨hn1, h⟩ := dm_gs h
  refine va_iast hx hb hK hP hD hS 6 0 rfl rfl hn1 dX4_word_12 (fun H locs hP hD hS => ?_)
  have hP : va_P (dC, dI) vwCl [(th, .inr (4, [.int tthr, .int tdd, .int tn, .ref tqA, .ref tqB, .ref tqC, .long ta, .long tb, .long tc, .long tp, .long tq, .long tr, .long ts, .int tsome, .ref tqL, .int tlet, .ref tqW, .ref tqO])), (tqA, .inl (cyJ, 40, .inr (.inl tla))), (tqB, .inl (cyJ, 40, .inr (.inl tlb))), (tqC, .inl (cyJ, 40, .inr (.inl tlc))), (tqL, .inl (cyJ, 7, .inr (.inl tlast))), (tqW, .inl (cyC, 40, .inl twd)), (tqO, .inl (cyI, 5, .inl (upd topn ((0 : Int32)).toNatClampNeg (0 : Int32))))] H := hP
  have hD : va_D A [(th, .inr (4, [.int tthr, .int tdd, .int tn, .ref tqA, .ref tqB, .ref tqC, .long ta, .long tb, .long tc, .long tp, .long tq, .long tr, .long ts, .int tsome, .ref tqL, .int tlet, .ref tqW, .ref tqO])), (tqA, .inl (cyJ, 40, .inr (.inl tla))), (tqB, .inl (cyJ, 40, .inr (.inl tlb))), (tqC, .inl (cyJ, 40, .inr (.inl tlc))), (tqL, .inl (cyJ, 7, .inr (.inl tlast))), (tqW, .inl (cyC, 40, .inl twd)), (tqO, .inl (cyI, 5, .inl (upd topn ((0 : Int32)).toNatClampNeg (0 : Int32))))] := hD
  refine lv_iconst (v := 0) hx hb dX4_word_13 (by decide) ?_
  refine lv_istore (lv' := [(4, .int (0 : Int32)), (3, .int (0 : Int32)), (2, .int (-1 : Int32)), (1, .int (0 : Int32)), (0, .ref th)]) hx hb dX4_word_14 hl (by decide) rfl (fun ls hl => ?_)
  have L16 : ∀ (n16 : Nat) (v2 : Int32) (v3 : Int32) (v4 : Int32) (v5 : Int32) (v6 : Int64) (v7 : Int64) (v8 : Int64) (v9 : Int64) (v10 : Int64) (v11 : Int64) (v12 : Int64) (v13 : Nat → Int32) (H : Heap) (locs : List Loc) (ls : Array Slot), f_X4_word_L16 tdd tn tla tlb tlc tlet twd n16 v2 v3 v4 v5 v6 v7 v8 v9 v10 v11 v12 v13 = some (rv, tthr', ta', tb', tc', tp', tq', tr', ts', topn') → va_P (dC, dI) vwCl [(th, .inr (4, [.int tthr, .int tdd, .int tn, .ref tqA, .ref tqB, .ref tqC, .long v6, .long v7, .long v8, .long v9, .long v10, .long v11, .long v12, .int tsome, .ref tqL, .int tlet, .ref tqW, .ref tqO])), (tqA, .inl (cyJ, 40, .inr (.inl tla))), (tqB, .inl (cyJ, 40, .inr (.inl tlb))), (tqC, .inl (cyJ, 40, .inr (.inl tlc))), (tqL, .inl (cyJ, 7, .inr (.inl tlast))), (tqW, .inl (cyC, 40, .inl twd)), (tqO, .inl (cyI, 5, .inl v13))] H → va_D A [(th, .inr (4, [.int tthr, .int tdd, .int tn, .ref tqA, .ref tqB, .ref tqC, .long v6, .long v7, .long v8, .long v9, .long v10, .long v11, .long v12, .int tsome, .ref tqL, .int tlet, .ref tqW, .ref tqO])), (tqA, .inl (cyJ, 40, .inr (.inl tla))), (tqB, .inl (cyJ, 40, .inr (.inl tlb))), (tqC, .inl (cyJ, 40, .inr (.inl tlc))), (tqL, .inl (cyJ, 7, .inr (.inl tlast))), (tqW, .inl (cyC, 40, .inl twd)), (tqO, .inl (cyI, 5, .inl v13))] → va_S A s.heap H locs → lv_has ls 7 [(4, .int v2), (3, .int v3), (2, .int v4), (1, .int v5), (0, .ref th)] → W p l e (headSpec wsX4_word { frames := 6, cells := 0, slots := 0, locals := 169 }).room s m ([Value.ref th] : List Value).toArray below meth c H locs 0 0 QQ (F0 m 16 ls []) := by
    intro n16
    induction n16 with
    | zero =>
      intro v2 v3 v4 v5 v6 v7 v8 v9 v10 v11 v12 v13 H locs ls h
      exact nomatch (show (none : Option (Int32 × Int32 × Int64 × Int64 × Int64 × Int64 × Int64 × Int64 × Int64 × (Nat → Int32))) = some _ from h)
    | succ n16 ih16 =>
      intro v2 v3 v4 v5 v6 v7 v8 v9 v10 v11 v12 v13 H locs ls h hP hD hS hl
      rw [f_X4_word_L16] at h
      refine lv_iload hx hb dX4_word_16 (lv_at hl 0 rfl) ?_
      refine lv_aload_n hx hb dX4_word_18 rfl (lv_at hl 4 rfl) ?_
      refine va_get (D := (dC, dI)) (ci := 4) (v := .int tlet) (C := RX4) (T := TX4) (N := 18) hx hb hts hinX4 hown hK hP 0 rfl rfl 15 (by decide) (hts (.fieldLink RX4 163 "FormDeskModel" "letters" "I") (by decide +kernel)) (fun _ h9 => h9) rfl dX4_word_19 ?_
      refine lv_icmp_ge (tgt := 221) hx hb dX4_word_22 (by decide) (fun hc14 => ?_) (fun hc14 => ?_)
      · have h := dm_t hc14 h
        refine lv_iload_n hx hb dX4_word_221 rfl (lv_at hl 3 rfl) ?_
        refine lv_if_le (tgt := 231) hx hb dX4_word_222 (by decide) (fun hc15 => ?_) (fun hc15 => ?_)
        · have h := dm_t hc15 h
          refine lv_iload_n hx hb dX4_word_231 rfl (lv_at hl 1 rfl) ?_
          refine lv_if_eq (tgt := 241) hx hb dX4_word_232 (by decide) (fun hc16 => ?_) (fun hc16 => ?_)
          · have h := dm_t hc16 h
            refine lv_aload_n hx hb dX4_word_241 rfl (lv_at hl 4 rfl) ?_
            refine lv_iconst (v := 0) hx hb dX4_word_242 (by decide) ?_
            refine va_put (D := (dC, dI)) (ci := 4) (v := .int (0 : Int32)) (ty := .int) (C := RX4) (T := TX4) (N := 18) hx hb hts hinX4 tyX4 tyX4_ok nmX4 hown hK hP hD hS 0 rfl rfl 0 (by decide) (hts (.fieldLink RX4 38 "FormDeskModel" "thrown" "I") (by decide +kernel)) (fun _ h9 => h9) rfl (by decide +kernel) rfl rfl (Nat.le_of_ble_eq_true rfl) dX4_word_243 (fun H locs hP hD hS => ?_)
            have hP : va_P (dC, dI) vwCl [(th, .inr (4, [.int (0 : Int32), .int tdd, .int tn, .ref tqA, .ref tqB, .ref tqC, .long v6, .long v7, .long v8, .long v9, .long v10, .long v11, .long v12, .int tsome, .ref tqL, .int tlet, .ref tqW, .ref tqO])), (tqA, .inl (cyJ, 40, .inr (.inl tla))), (tqB, .inl (cyJ, 40, .inr (.inl tlb))), (tqC, .inl (cyJ, 40, .inr (.inl tlc))), (tqL, .inl (cyJ, 7, .inr (.inl tlast))), (tqW, .inl (cyC, 40, .inl twd)), (tqO, .inl (cyI, 5, .inl v13))] H := hP
            have hD : va_D A [(th, .inr (4, [.int (0 : Int32), .int tdd, .int tn, .ref tqA, .ref tqB, .ref tqC, .long v6, .long v7, .long v8, .long v9, .long v10, .long v11, .long v12, .int tsome, .ref tqL, .int tlet, .ref tqW, .ref tqO])), (tqA, .inl (cyJ, 40, .inr (.inl tla))), (tqB, .inl (cyJ, 40, .inr (.inl tlb))), (tqC, .inl (cyJ, 40, .inr (.inl tlc))), (tqL, .inl (cyJ, 7, .inr (.inl tlast))), (tqW, .inl (cyC, 40, .inl twd)), (tqO, .inl (cyI, 5, .inl v13))] := hD
            refine lv_aload_n hx hb dX4_word_246 rfl (lv_at hl 4 rfl) ?_
            refine lv_iconst (v := 0) hx hb dX4_word_247 (by decide) ?_
            refine lv_iload_n hx hb dX4_word_248 rfl (lv_at hl 2 rfl) ?_
            obtain ⟨w17, w18, w19, w20, w21, w22, w23, w24, hk25, h⟩ := dm_b8s h
            refine mc_v (wr := []) (va_runV (As := [.int (0 : Int32), .int v4]) (rest := []) ⟨hx, hb, hml, hown, hts⟩ (c_X4_join l dC dI cyI cyJ cyC th tqA tqB tqC tqL tqW tqO H.size (0 : Int32) tdd tn tla tlb tlc v6 v7 v8 v9 v10 v11 v12 tsome tlast tlet twd v13 (0 : Int32) v4 w17 w18 w19 w20 w21 w22 w23 w24 hk25) (cwV 2 hts gX4_word_X4_join rfl rfl rfl (by decide +kernel) ⟨(Nat.le_of_ble_eq_true rfl), (Nat.le_of_ble_eq_true rfl)⟩) (mc_preV hK (hP.sub (ws' := [(th, .inr (4, [.int (0 : Int32), .int tdd, .int tn, .ref tqA, .ref tqB, .ref tqC, .long v6, .long v7, .long v8, .long v9, .long v10, .long v11, .long v12, .int tsome, .ref tqL, .int tlet, .ref tqW, .ref tqO])), (tqA, .inl (cyJ, 40, .inr (.inl tla))), (tqB, .inl (cyJ, 40, .inr (.inl tlb))), (tqC, .inl (cyJ, 40, .inr (.inl tlc))), (tqL, .inl (cyJ, 7, .inr (.inl tlast))), (tqW, .inl (cyC, 40, .inl twd)), (tqO, .inl (cyI, 5, .inl v13))]) [0, 1, 2, 3, 4, 5, 6] rfl) (hD.sub (ws' := [(th, .inr (4, [.int (0 : Int32), .int tdd, .int tn, .ref tqA, .ref tqB, .ref tqC, .long v6, .long v7, .long v8, .long v9, .long v10, .long v11, .long v12, .int tsome, .ref tqL, .int tlet, .ref tqW, .ref tqO])), (tqA, .inl (cyJ, 40, .inr (.inl tla))), (tqB, .inl (cyJ, 40, .inr (.inl tlb))), (tqC, .inl (cyJ, 40, .inr (.inl tlc))), (tqL, .inl (cyJ, 7, .inr (.inl tlast))), (tqW, .inl (cyC, 40, .inl twd)), (tqO, .inl (cyI, 5, .inl v13))]) [0, 1, 2, 3, 4, 5, 6] (by decide) rfl) hnw rfl rfl) rfl rfl hl.1 rfl (lv_room (Nat.le_of_ble_eq_true rfl)) dX4_word_249 ⟨Nat.zero_le _, Nat.zero_le _⟩) hP hD hS hA [0, 1, 2, 3, 4, 5, 6] [] rfl rfl rfl (by decide) (fun H locs hP hD hS => ?_)
            have hP : va_P (dC, dI) vwCl [(th, .inr (4, [.int (0 : Int32), .int tdd, .int tn, .ref tqA, .ref tqB, .ref tqC, .long w17, .long w18, .long w19, .long w20, .long w21, .long w22, .long w23, .int tsome, .ref tqL, .int tlet, .ref tqW, .ref tqO])), (tqA, .inl (cyJ, 40, .inr (.inl tla))), (tqB, .inl (cyJ, 40, .inr (.inl tlb))), (tqC, .inl (cyJ, 40, .inr (.inl tlc))), (tqL, .inl (cyJ, 7, .inr (.inl tlast))), (tqW, .inl (cyC, 40, .inl twd)), (tqO, .inl (cyI, 5, .inl w24))] H := hP
            have hD : va_D A [(th, .inr (4, [.int (0 : Int32), .int tdd, .int tn, .ref tqA, .ref tqB, .ref tqC, .long w17, .long w18, .long w19, .long w20, .long w21, .long w22, .long w23, .int tsome, .ref tqL, .int tlet, .ref tqW, .ref tqO])), (tqA, .inl (cyJ, 40, .inr (.inl tla))), (tqB, .inl (cyJ, 40, .inr (.inl tlb))), (tqC, .inl (cyJ, 40, .inr (.inl tlc))), (tqL, .inl (cyJ, 7, .inr (.inl tlast))), (tqW, .inl (cyC, 40, .inl twd)), (tqO, .inl (cyI, 5, .inl w24))] := hD
            refine lv_aload_n hx hb dX4_word_252 rfl (lv_at hl 4 rfl) ?_
            refine va_get (D := (dC, dI)) (ci := 4) (v := .ref tqO) (C := RX4) (T := TX4) (N := 18) hx hb hts hinX4 hown hK hP 0 rfl rfl 17 (by decide) (hts (.fieldLink RX4 30 "FormDeskModel" "open" "[I") (by decide +kernel)) (fun _ h9 => h9) rfl dX4_word_253 ?_
            refine lv_iconst (v := 0) hx hb dX4_word_256 (by decide) ?_
            obtain ⟨hn26, h⟩ := dm_gs h
            refine va_iald hx hb hK hP 6 0 rfl rfl hn26 dX4_word_257 ?_
            obtain ⟨hE0, hE1, hE2, hE3, hE4, hE5, hE6, hE7, hE8, hE9⟩ := dm_i10 h
            subst hE0; subst hE1; subst hE2; subst hE3; subst hE4; subst hE5; subst hE6; subst hE7; subst hE8; subst hE9
            rw [hQQ]
            have hP9 := hP.sub (ws' := [(th, .inr (4, [.int (0 : Int32), .int tdd, .int tn, .ref tqA, .ref tqB, .ref tqC, .long w17, .long w18, .long w19, .long w20, .long w21, .long w22, .long w23, .int tsome, .ref tqL, .int tlet, .ref tqW, .ref tqO])), (tqA, .inl (cyJ, 40, .inr (.inl tla))), (tqB, .inl (cyJ, 40, .inr (.inl tlb))), (tqC, .inl (cyJ, 40, .inr (.inl tlc))), (tqL, .inl (cyJ, 7, .inr (.inl tlast))), (tqW, .inl (cyC, 40, .inl twd)), (tqO, .inl (cyI, 5, .inl w24))]) [0, 1, 2, 3, 4, 5, 6] rfl
            have hD9 := hD.sub (ws' := [(th, .inr (4, [.int (0 : Int32), .int tdd, .int tn, .ref tqA, .ref tqB, .ref tqC, .long w17, .long w18, .long w19, .long w20, .long w21, .long w22, .long w23, .int tsome, .ref tqL, .int tlet, .ref tqW, .ref tqO])), (tqA, .inl (cyJ, 40, .inr (.inl tla))), (tqB, .inl (cyJ, 40, .inr (.inl tlb))), (tqC, .inl (cyJ, 40, .inr (.inl tlc))), (tqL, .inl (cyJ, 7, .inr (.inl tlast))), (tqW, .inl (cyC, 40, .inl twd)), (tqO, .inl (cyI, 5, .inl w24))]) [0, 1, 2, 3, 4, 5, 6] (by decide) rfl
            exact W.iret (v := (w24 ((0 : Int32)).toNatClampNeg)) hx hb hr (fun t ht hW => ⟨⟨(w24 ((0 : Int32)).toNatClampNeg), (), rfl, rfl, by rw [ht]; exact hP9, hD9⟩, hS.F ht⟩) hS.2.2 dX4_word_258
          · have h := dm_f hc16 h
            refine lv_aload_n hx hb dX4_word_235 rfl (lv_at hl 4 rfl) ?_
            refine lv_iconst (v := 2) hx hb dX4_word_236 (by decide) ?_
            obtain ⟨r27, w28, hk29, h⟩ := dm_b2s h
            refine mc_i (wr := []) (va_runV (As := [.int (2 : Int32)]) (rest := []) ⟨hx, hb, hml, hown, hts⟩ (c_X4_refuse l dC dI cyI cyJ cyC th tqA tqB tqC tqL tqW tqO H.size tthr tdd tn tla tlb tlc v6 v7 v8 v9 v10 v11 v12 tsome tlast tlet twd v13 (2 : Int32) r27 w28 hk29) (cwV 1 hts gX4_word_X4_refuse rfl rfl rfl (by decide +kernel) ⟨(Nat.le_of_ble_eq_true rfl), (Nat.le_of_ble_eq_true rfl)⟩) (mc_preV hK (hP.sub (ws' := [(th, .inr (4, [.int tthr, .int tdd, .int tn, .ref tqA, .ref tqB, .ref tqC, .long v6, .long v7, .long v8, .long v9, .long v10, .long v11, .long v12, .int tsome, .ref tqL, .int tlet, .ref tqW, .ref tqO])), (tqA, .inl (cyJ, 40, .inr (.inl tla))), (tqB, .inl (cyJ, 40, .inr (.inl tlb))), (tqC, .inl (cyJ, 40, .inr (.inl tlc))), (tqL, .inl (cyJ, 7, .inr (.inl tlast))), (tqW, .inl (cyC, 40, .inl twd)), (tqO, .inl (cyI, 5, .inl v13))]) [0, 1, 2, 3, 4, 5, 6] rfl) (hD.sub (ws' := [(th, .inr (4, [.int tthr, .int tdd, .int tn, .ref tqA, .ref tqB, .ref tqC, .long v6, .long v7, .long v8, .long v9, .long v10, .long v11, .long v12, .int tsome, .ref tqL, .int tlet, .ref tqW, .ref tqO])), (tqA, .inl (cyJ, 40, .inr (.inl tla))), (tqB, .inl (cyJ, 40, .inr (.inl tlb))), (tqC, .inl (cyJ, 40, .inr (.inl tlc))), (tqL, .inl (cyJ, 7, .inr (.inl tlast))), (tqW, .inl (cyC, 40, .inl twd)), (tqO, .inl (cyI, 5, .inl v13))]) [0, 1, 2, 3, 4, 5, 6] (by decide) rfl) hnw rfl rfl) rfl rfl hl.1 rfl (lv_room (Nat.le_of_ble_eq_true rfl)) dX4_word_237 ⟨Nat.zero_le _, Nat.zero_le _⟩) hP hD hS hA [0, 1, 2, 3, 4, 5, 6] [] rfl rfl rfl (by decide) (fun H locs hP hD hS => ?_)
            have hP : va_P (dC, dI) vwCl [(th, .inr (4, [.int w28, .int tdd, .int tn, .ref tqA, .ref tqB, .ref tqC, .long v6, .long v7, .long v8, .long v9, .long v10, .long v11, .long v12, .int tsome, .ref tqL, .int tlet, .ref tqW, .ref tqO])), (tqA, .inl (cyJ, 40, .inr (.inl tla))), (tqB, .inl (cyJ, 40, .inr (.inl tlb))), (tqC, .inl (cyJ, 40, .inr (.inl tlc))), (tqL, .inl (cyJ, 7, .inr (.inl tlast))), (tqW, .inl (cyC, 40, .inl twd)), (tqO, .inl (cyI, 5, .inl v13))] H := hP
            have hD : va_D A [(th, .inr (4, [.int w28, .int tdd, .int tn, .ref tqA, .ref tqB, .ref tqC, .long v6, .long v7, .long v8, .long v9, .long v10, .long v11, .long v12, .int tsome, .ref tqL, .int tlet, .ref tqW, .ref tqO])), (tqA, .inl (cyJ, 40, .inr (.inl tla))), (tqB, .inl (cyJ, 40, .inr (.inl tlb))), (tqC, .inl (cyJ, 40, .inr (.inl tlc))), (tqL, .inl (cyJ, 7, .inr (.inl tlast))), (tqW, .inl (cyC, 40, .inl twd)), (tqO, .inl (cyI, 5, .inl v13))] := hD
            obtain ⟨hE0, hE1, hE2, hE3, hE4, hE5, hE6, hE7, hE8, hE9⟩ := dm_i10 h
            subst hE0; subst hE1; subst hE2; subst hE3; subst hE4; subst hE5; subst hE6; subst hE7; subst hE8; subst hE9
            rw [hQQ]
            have hP9 := hP.sub (ws' := [(th, .inr (4, [.int w28, .int tdd, .int tn, .ref tqA, .ref tqB, .ref tqC, .long v6, .long v7, .long v8, .long v9, .long v10, .long v11, .long v12, .int tsome, .ref tqL, .int tlet, .ref tqW, .ref tqO])), (tqA, .inl (cyJ, 40, .inr (.inl tla))), (tqB, .inl (cyJ, 40, .inr (.inl tlb))), (tqC, .inl (cyJ, 40, .inr (.inl tlc))), (tqL, .inl (cyJ, 7, .inr (.inl tlast))), (tqW, .inl (cyC, 40, .inl twd)), (tqO, .inl (cyI, 5, .inl v13))]) [0, 1, 2, 3, 4, 5, 6] rfl
            have hD9 := hD.sub (ws' := [(th, .inr (4, [.int w28, .int tdd, .int tn, .ref tqA, .ref tqB, .ref tqC, .long v6, .long v7, .long v8, .long v9, .long v10, .long v11, .long v12, .int tsome, .ref tqL, .int tlet, .ref tqW, .ref tqO])), (tqA, .inl (cyJ, 40, .inr (.inl tla))), (tqB, .inl (cyJ, 40, .inr (.inl tlb))), (tqC, .inl (cyJ, 40, .inr (.inl tlc))), (tqL, .inl (cyJ, 7, .inr (.inl tlast))), (tqW, .inl (cyC, 40, .inl twd)), (tqO, .inl (cyI, 5, .inl v13))]) [0, 1, 2, 3, 4, 5, 6] (by decide) rfl
            exact W.iret (v := r27) hx hb hr (fun t ht hW => ⟨⟨r27, (), rfl, rfl, by rw [ht]; exact hP9, hD9⟩, hS.F ht⟩) hS.2.2 dX4_word_240
        · have h := dm_f hc15 h
          refine lv_aload_n hx hb dX4_word_225 rfl (lv_at hl 4 rfl) ?_
          refine lv_iconst (v := 1) hx hb dX4_word_226 (by decide) ?_
          obtain ⟨r30, w31, hk32, h⟩ := dm_b2s h
          refine mc_i (wr := []) (va_runV (As := [.int (1 : Int32)]) (rest := []) ⟨hx, hb, hml, hown, hts⟩ (c_X4_refuse l dC dI cyI cyJ cyC th tqA tqB tqC tqL tqW tqO H.size tthr tdd tn tla tlb tlc v6 v7 v8 v9 v10 v11 v12 tsome tlast tlet twd v13 (1 : Int32) r30 w31 hk32) (cwV 1 hts gX4_word_X4_refuse rfl rfl rfl (by decide +kernel) ⟨(Nat.le_of_ble_eq_true rfl), (Nat.le_of_ble_eq_true rfl)⟩) (mc_preV hK (hP.sub (ws' := [(th, .inr (4, [.int tthr, .int tdd, .int tn, .ref tqA, .ref tqB, .ref tqC, .long v6, .long v7, .long v8, .long v9, .long v10, .long v11, .long v12, .int tsome, .ref tqL, .int tlet, .ref tqW, .ref tqO])), (tqA, .inl (cyJ, 40, .inr (.inl tla))), (tqB, .inl (cyJ, 40, .inr (.inl tlb))), (tqC, .inl (cyJ, 40, .inr (.inl tlc))), (tqL, .inl (cyJ, 7, .inr (.inl tlast))), (tqW, .inl (cyC, 40, .inl twd)), (tqO, .inl (cyI, 5, .inl v13))]) [0, 1, 2, 3, 4, 5, 6] rfl) (hD.sub (ws' := [(th, .inr (4, [.int tthr, .int tdd, .int tn, .ref tqA, .ref tqB, .ref tqC, .long v6, .long v7, .long v8, .long v9, .long v10, .long v11, .long v12, .int tsome, .ref tqL, .int tlet, .ref tqW, .ref tqO])), (tqA, .inl (cyJ, 40, .inr (.inl tla))), (tqB, .inl (cyJ, 40, .inr (.inl tlb))), (tqC, .inl (cyJ, 40, .inr (.inl tlc))), (tqL, .inl (cyJ, 7, .inr (.inl tlast))), (tqW, .inl (cyC, 40, .inl twd)), (tqO, .inl (cyI, 5, .inl v13))]) [0, 1, 2, 3, 4, 5, 6] (by decide) rfl) hnw rfl rfl) rfl rfl hl.1 rfl (lv_room (Nat.le_of_ble_eq_true rfl)) dX4_word_227 ⟨Nat.zero_le _, Nat.zero_le _⟩) hP hD hS hA [0, 1, 2, 3, 4, 5, 6] [] rfl rfl rfl (by decide) (fun H locs hP hD hS => ?_)
          have hP : va_P (dC, dI) vwCl [(th, .inr (4, [.int w31, .int tdd, .int tn, .ref tqA, .ref tqB, .ref tqC, .long v6, .long v7, .long v8, .long v9, .long v10, .long v11, .long v12, .int tsome, .ref tqL, .int tlet, .ref tqW, .ref tqO])), (tqA, .inl (cyJ, 40, .inr (.inl tla))), (tqB, .inl (cyJ, 40, .inr (.inl tlb))), (tqC, .inl (cyJ, 40, .inr (.inl tlc))), (tqL, .inl (cyJ, 7, .inr (.inl tlast))), (tqW, .inl (cyC, 40, .inl twd)), (tqO, .inl (cyI, 5, .inl v13))] H := hP
          have hD : va_D A [(th, .inr (4, [.int w31, .int tdd, .int tn, .ref tqA, .ref tqB, .ref tqC, .long v6, .long v7, .long v8, .long v9, .long v10, .long v11, .long v12, .int tsome, .ref tqL, .int tlet, .ref tqW, .ref tqO])), (tqA, .inl (cyJ, 40, .inr (.inl tla))), (tqB, .inl (cyJ, 40, .inr (.inl tlb))), (tqC, .inl (cyJ, 40, .inr (.inl tlc))), (tqL, .inl (cyJ, 7, .inr (.inl tlast))), (tqW, .inl (cyC, 40, .inl twd)), (tqO, .inl (cyI, 5, .inl v13))] := hD
          obtain ⟨hE0, hE1, hE2, hE3, hE4, hE5, hE6, hE7, hE8, hE9⟩ := dm_i10 h
          subst hE0; subst hE1; subst hE2; subst hE3; subst hE4; subst hE5; subst hE6; subst hE7; subst hE8; subst hE9
          rw [hQQ]
          have hP9 := hP.sub (ws' := [(th, .inr (4, [.int w31, .int tdd, .int tn, .ref tqA, .ref tqB, .ref tqC, .long v6, .long v7, .long v8, .long v9, .long v10, .long v11, .long v12, .int tsome, .ref tqL, .int tlet, .ref tqW, .ref tqO])), (tqA, .inl (cyJ, 40, .inr (.inl tla))), (tqB, .inl (cyJ, 40, .inr (.inl tlb))), (tqC, .inl (cyJ, 40, .inr (.inl tlc))), (tqL, .inl (cyJ, 7, .inr (.inl tlast))), (tqW, .inl (cyC, 40, .inl twd)), (tqO, .inl (cyI, 5, .inl v13))]) [0, 1, 2, 3, 4, 5, 6] rfl
          have hD9 := hD.sub (ws' := [(th, .inr (4, [.int w31, .int tdd, .int tn, .ref tqA, .ref tqB, .ref tqC, .long v6, .long v7, .long v8, .long v9, .long v10, .long v11, .long v12, .int tsome, .ref tqL, .int tlet, .ref tqW, .ref tqO])), (tqA, .inl (cyJ, 40, .inr (.inl tla))), (tqB, .inl (cyJ, 40, .inr (.inl tlb))), (tqC, .inl (cyJ, 40, .inr (.inl tlc))), (tqL, .inl (cyJ, 7, .inr (.inl tlast))), (tqW, .inl (cyC, 40, .inl twd)), (tqO, .inl (cyI, 5, .inl v13))]) [0, 1, 2, 3, 4, 5, 6] (by decide) rfl
          exact W.iret (v := r30) hx hb hr (fun t ht hW => ⟨⟨r30, (), rfl, rfl, by rw [ht]; exact hP9, hD9⟩, hS.F ht⟩) hS.2.2 dX4_word_230
      · have h := dm_f hc14 h
        refine lv_aload_n hx hb dX4_word_25 rfl (lv_at hl 4 rfl) ?_
        refine va_get (D := (dC, dI)) (ci := 4) (v := .ref tqW) (C := RX4) (T := TX4) (N := 18) hx hb hts hinX4 hown hK hP 0 rfl rfl 16 (by decide) (hts (.fieldLink RX4 26 "FormDeskModel" "word" "[C") (by decide +kernel)) (fun _ h9 => h9) rfl dX4_word_26 ?_
        refine lv_iload hx hb dX4_word_29 (lv_at hl 0 rfl) ?_
        obtain ⟨hn33, h⟩ := dm_gs h
        refine va_cald hx hb hK hP 5 2 rfl rfl hn33 dX4_word_31 ?_
        refine lv_topi (fun x34 ex34 => ?_)
        have h := dm_lu ex34 h
        refine lv_istore (lv' := [(5, .int x34), (4, .int v2), (3, .int v3), (2, .int v4), (1, .int v5), (0, .ref th)]) hx hb dX4_word_32 hl (by decide) rfl (fun ls hl => ?_)
        refine lv_iload hx hb dX4_word_34 (lv_at hl 0 rfl) ?_
        obtain ⟨r35, hk36, h⟩ := dm_b1s h
        refine mc_i (wr := [(th, .inr (4, [.int tthr, .int tdd, .int tn, .ref tqA, .ref tqB, .ref tqC, .long v6, .long v7, .long v8, .long v9, .long v10, .long v11, .long v12, .int tsome, .ref tqL, .int tlet, .ref tqW, .ref tqO])), (tqA, .inl (cyJ, 40, .inr (.inl tla))), (tqB, .inl (cyJ, 40, .inr (.inl tlb))), (tqC, .inl (cyJ, 40, .inr (.inl tlc))), (tqL, .inl (cyJ, 7, .inr (.inl tlast))), (tqW, .inl (cyC, 40, .inl twd)), (tqO, .inl (cyI, 5, .inl v13))]) (va_runS (As := [.int x34]) (rest := []) ⟨hx, hb, hml, hown, hts⟩ (c_X4_isDigit l dC dI cyI cyJ cyC H.size x34 r35 hk36) (va_cwS 1 hts gX4_word_X4_isDigit rfl rfl rfl (by decide +kernel) ⟨(Nat.le_of_ble_eq_true rfl), (Nat.le_of_ble_eq_true rfl)⟩) (mc_preS hK (hP.sub (ws' := []) [] rfl) (hD.sub (ws' := []) [] (by decide) rfl) hnw) rfl rfl hl.1 rfl (lv_room (Nat.le_of_ble_eq_true rfl)) dX4_word_36 ⟨Nat.zero_le _, Nat.zero_le _⟩) hP hD hS hA [] [0, 1, 2, 3, 4, 5, 6] rfl rfl rfl (by decide) (fun H locs hP hD hS => ?_)
        have hP : va_P (dC, dI) vwCl [(th, .inr (4, [.int tthr, .int tdd, .int tn, .ref tqA, .ref tqB, .ref tqC, .long v6, .long v7, .long v8, .long v9, .long v10, .long v11, .long v12, .int tsome, .ref tqL, .int tlet, .ref tqW, .ref tqO])), (tqA, .inl (cyJ, 40, .inr (.inl tla))), (tqB, .inl (cyJ, 40, .inr (.inl tlb))), (tqC, .inl (cyJ, 40, .inr (.inl tlc))), (tqL, .inl (cyJ, 7, .inr (.inl tlast))), (tqW, .inl (cyC, 40, .inl twd)), (tqO, .inl (cyI, 5, .inl v13))] H := hP
        have hD : va_D A [(th, .inr (4, [.int tthr, .int tdd, .int tn, .ref tqA, .ref tqB, .ref tqC, .long v6, .long v7, .long v8, .long v9, .long v10, .long v11, .long v12, .int tsome, .ref tqL, .int tlet, .ref tqW, .ref tqO])), (tqA, .inl (cyJ, 40, .inr (.inl tla))), (tqB, .inl (cyJ, 40, .inr (.inl tlb))), (tqC, .inl (cyJ, 40, .inr (.inl tlc))), (tqL, .inl (cyJ, 7, .inr (.inl tlast))), (tqW, .inl (cyC, 40, .inl twd)), (tqO, .inl (cyI, 5, .inl v13))] := hD
        refine lv_if_eq (tgt := 73) hx hb dX4_word_39 (by decide) (fun hc37 => ?_) (fun hc37 => ?_)
        · have h := dm_t hc37 h
          refine lv_aload_n hx hb dX4_word_73 rfl (lv_at hl 5 rfl) ?_
          refine lv_iload_n hx hb dX4_word_74 rfl (lv_at hl 4 rfl) ?_
          refine lv_iload_n hx hb dX4_word_75 rfl (lv_at hl 3 rfl) ?_
          obtain ⟨w38, w39, w40, w41, w42, w43, w44, w45, hk46, h⟩ := dm_b8s h
          refine mc_v (wr := []) (va_runV (As := [.int v5, .int v4]) (rest := []) ⟨hx, hb, hml, hown, hts⟩ (c_X4_join l dC dI cyI cyJ cyC th tqA tqB tqC tqL tqW tqO H.size tthr tdd tn tla tlb tlc v6 v7 v8 v9 v10 v11 v12 tsome tlast tlet twd v13 v5 v4 w38 w39 w40 w41 w42 w43 w44 w45 hk46) (cwV 2 hts gX4_word_X4_join rfl rfl rfl (by decide +kernel) ⟨(Nat.le_of_ble_eq_true rfl), (Nat.le_of_ble_eq_true rfl)⟩) (mc_preV hK (hP.sub (ws' := [(th, .inr (4, [.int tthr, .int tdd, .int tn, .ref tqA, .ref tqB, .ref tqC, .long v6, .long v7, .long v8, .long v9, .long v10, .long v11, .long v12, .int tsome, .ref tqL, .int tlet, .ref tqW, .ref tqO])), (tqA, .inl (cyJ, 40, .inr (.inl tla))), (tqB, .inl (cyJ, 40, .inr (.inl tlb))), (tqC, .inl (cyJ, 40, .inr (.inl tlc))), (tqL, .inl (cyJ, 7, .inr (.inl tlast))), (tqW, .inl (cyC, 40, .inl twd)), (tqO, .inl (cyI, 5, .inl v13))]) [0, 1, 2, 3, 4, 5, 6] rfl) (hD.sub (ws' := [(th, .inr (4, [.int tthr, .int tdd, .int tn, .ref tqA, .ref tqB, .ref tqC, .long v6, .long v7, .long v8, .long v9, .long v10, .long v11, .long v12, .int tsome, .ref tqL, .int tlet, .ref tqW, .ref tqO])), (tqA, .inl (cyJ, 40, .inr (.inl tla))), (tqB, .inl (cyJ, 40, .inr (.inl tlb))), (tqC, .inl (cyJ, 40, .inr (.inl tlc))), (tqL, .inl (cyJ, 7, .inr (.inl tlast))), (tqW, .inl (cyC, 40, .inl twd)), (tqO, .inl (cyI, 5, .inl v13))]) [0, 1, 2, 3, 4, 5, 6] (by decide) rfl) hnw rfl rfl) rfl rfl hl.1 rfl (lv_room (Nat.le_of_ble_eq_true rfl)) dX4_word_76 ⟨Nat.zero_le _, Nat.zero_le _⟩) hP hD hS hA [0, 1, 2, 3, 4, 5, 6] [] rfl rfl rfl (by decide) (fun H locs hP hD hS => ?_)
          have hP : va_P (dC, dI) vwCl [(th, .inr (4, [.int tthr, .int tdd, .int tn, .ref tqA, .ref tqB, .ref tqC, .long w38, .long w39, .long w40, .long w41, .long w42, .long w43, .long w44, .int tsome, .ref tqL, .int tlet, .ref tqW, .ref tqO])), (tqA, .inl (cyJ, 40, .inr (.inl tla))), (tqB, .inl (cyJ, 40, .inr (.inl tlb))), (tqC, .inl (cyJ, 40, .inr (.inl tlc))), (tqL, .inl (cyJ, 7, .inr (.inl tlast))), (tqW, .inl (cyC, 40, .inl twd)), (tqO, .inl (cyI, 5, .inl w45))] H := hP
          have hD : va_D A [(th, .inr (4, [.int tthr, .int tdd, .int tn, .ref tqA, .ref tqB, .ref tqC, .long w38, .long w39, .long w40, .long w41, .long w42, .long w43, .long w44, .int tsome, .ref tqL, .int tlet, .ref tqW, .ref tqO])), (tqA, .inl (cyJ, 40, .inr (.inl tla))), (tqB, .inl (cyJ, 40, .inr (.inl tlb))), (tqC, .inl (cyJ, 40, .inr (.inl tlc))), (tqL, .inl (cyJ, 7, .inr (.inl tlast))), (tqW, .inl (cyC, 40, .inl twd)), (tqO, .inl (cyI, 5, .inl w45))] := hD
          refine lv_iconst (v := -1) hx hb dX4_word_79 (by decide) ?_
          refine lv_istore_n (lv' := [(2, .int (-1 : Int32)), (5, .int x34), (4, .int v2), (3, .int v3), (1, .int v5), (0, .ref th)]) hx hb dX4_word_80 rfl hl (by decide) rfl (fun ls hl => ?_)
          refine lv_iload hx hb dX4_word_81 (lv_at hl 1 rfl) ?_
          refine lv_bipush (v := 40) hx hb dX4_word_83 (by decide) ?_
          refine lv_icmp_ne (tgt := 112) hx hb dX4_word_85 (by decide) (fun hc47 => ?_) (fun hc47 => ?_)
          · have h := dm_f hc47 h
            refine lv_iload hx hb dX4_word_112 (lv_at hl 1 rfl) ?_
            refine lv_bipush (v := 41) hx hb dX4_word_114 (by decide) ?_
            refine lv_icmp_ne (tgt := 142) hx hb dX4_word_116 (by decide) (fun hc48 => ?_) (fun hc48 => ?_)
            · have h := dm_f hc48 h
              refine lv_iload hx hb dX4_word_142 (lv_at hl 1 rfl) ?_
              refine lv_bipush (v := 97) hx hb dX4_word_144 (by decide) ?_
              refine lv_icmp_lt (tgt := 157) hx hb dX4_word_146 (by decide) (fun hc49 => ?_) (fun hc49 => ?_)
              · have h := dm_t hc49 h
                refine lv_iload hx hb dX4_word_157 (lv_at hl 1 rfl) ?_
                refine lv_bipush (v := 65) hx hb dX4_word_159 (by decide) ?_
                refine lv_isub hx hb dX4_word_161 ?_
                refine lv_topi (fun x50 ex50 => ?_)
                have h := dm_lu ex50 h
                refine lv_istore (lv' := [(6, .int x50), (2, .int (-1 : Int32)), (5, .int x34), (4, .int v2), (3, .int v3), (1, .int v5), (0, .ref th)]) hx hb dX4_word_162 hl (by decide) rfl (fun ls hl => ?_)
                refine lv_iload_n hx hb dX4_word_164 rfl (lv_at hl 4 rfl) ?_
                refine lv_if_ne (tgt := 177) hx hb dX4_word_165 (by decide) (fun hc51 => ?_) (fun hc51 => ?_)
                · have h := dm_f hc51 h
                  refine lv_iconst (v := 1) hx hb dX4_word_177 (by decide) ?_
                  refine lv_goto (tgt := 182) hx hb dX4_word_178 (by decide) ?_
                  refine lv_istore_n (lv' := [(3, .int (1 : Int32)), (6, .int x50), (2, .int (-1 : Int32)), (5, .int x34), (4, .int v2), (1, .int v5), (0, .ref th)]) hx hb dX4_word_182 rfl hl (by decide) rfl (fun ls hl => ?_)
                  refine lv_aload_n hx hb dX4_word_183 rfl (lv_at hl 6 rfl) ?_
                  refine lv_iload hx hb dX4_word_184 (lv_at hl 1 rfl) ?_
                  obtain ⟨r52, hk53, h⟩ := dm_b1s h
                  refine mc_i (wr := []) (va_runV (As := [.int x50]) (rest := []) ⟨hx, hb, hml, hown, hts⟩ (c_X4_isClass l dC dI cyI cyJ cyC th tqA tqB tqC tqL tqW tqO H.size tthr tdd tn tla tlb tlc w38 w39 w40 w41 w42 w43 w44 tsome tlast tlet twd w45 x50 r52 hk53) (cwV 1 hts gX4_word_X4_isClass rfl rfl rfl (by decide +kernel) ⟨(Nat.le_of_ble_eq_true rfl), (Nat.le_of_ble_eq_true rfl)⟩) (mc_preV hK (hP.sub (ws' := [(th, .inr (4, [.int tthr, .int tdd, .int tn, .ref tqA, .ref tqB, .ref tqC, .long w38, .long w39, .long w40, .long w41, .long w42, .long w43, .long w44, .int tsome, .ref tqL, .int tlet, .ref tqW, .ref tqO])), (tqA, .inl (cyJ, 40, .inr (.inl tla))), (tqB, .inl (cyJ, 40, .inr (.inl tlb))), (tqC, .inl (cyJ, 40, .inr (.inl tlc))), (tqL, .inl (cyJ, 7, .inr (.inl tlast))), (tqW, .inl (cyC, 40, .inl twd)), (tqO, .inl (cyI, 5, .inl w45))]) [0, 1, 2, 3, 4, 5, 6] rfl) (hD.sub (ws' := [(th, .inr (4, [.int tthr, .int tdd, .int tn, .ref tqA, .ref tqB, .ref tqC, .long w38, .long w39, .long w40, .long w41, .long w42, .long w43, .long w44, .int tsome, .ref tqL, .int tlet, .ref tqW, .ref tqO])), (tqA, .inl (cyJ, 40, .inr (.inl tla))), (tqB, .inl (cyJ, 40, .inr (.inl tlb))), (tqC, .inl (cyJ, 40, .inr (.inl tlc))), (tqL, .inl (cyJ, 7, .inr (.inl tlast))), (tqW, .inl (cyC, 40, .inl twd)), (tqO, .inl (cyI, 5, .inl w45))]) [0, 1, 2, 3, 4, 5, 6] (by decide) rfl) hnw rfl rfl) rfl rfl hl.1 rfl (lv_room (Nat.le_of_ble_eq_true rfl)) dX4_word_186 ⟨Nat.zero_le _, Nat.zero_le _⟩) hP hD hS hA [0, 1, 2, 3, 4, 5, 6] [] rfl rfl rfl (by decide) (fun H locs hP hD hS => ?_)
                  have hP : va_P (dC, dI) vwCl [(th, .inr (4, [.int tthr, .int tdd, .int tn, .ref tqA, .ref tqB, .ref tqC, .long w38, .long w39, .long w40, .long w41, .long w42, .long w43, .long w44, .int tsome, .ref tqL, .int tlet, .ref tqW, .ref tqO])), (tqA, .inl (cyJ, 40, .inr (.inl tla))), (tqB, .inl (cyJ, 40, .inr (.inl tlb))), (tqC, .inl (cyJ, 40, .inr (.inl tlc))), (tqL, .inl (cyJ, 7, .inr (.inl tlast))), (tqW, .inl (cyC, 40, .inl twd)), (tqO, .inl (cyI, 5, .inl w45))] H := hP
                  have hD : va_D A [(th, .inr (4, [.int tthr, .int tdd, .int tn, .ref tqA, .ref tqB, .ref tqC, .long w38, .long w39, .long w40, .long w41, .long w42, .long w43, .long w44, .int tsome, .ref tqL, .int tlet, .ref tqW, .ref tqO])), (tqA, .inl (cyJ, 40, .inr (.inl tla))), (tqB, .inl (cyJ, 40, .inr (.inl tlb))), (tqC, .inl (cyJ, 40, .inr (.inl tlc))), (tqL, .inl (cyJ, 7, .inr (.inl tlast))), (tqW, .inl (cyC, 40, .inl twd)), (tqO, .inl (cyI, 5, .inl w45))] := hD
                  refine lv_if_ne (tgt := 196) hx hb dX4_word_189 (by decide) (fun hc54 => ?_) (fun hc54 => ?_)
                  · have h := dm_f hc54 h
                    refine lv_iload hx hb dX4_word_196 (lv_at hl 3 rfl) ?_
                    refine lv_bipush (v := 97) hx hb dX4_word_198 (by decide) ?_
                    refine lv_icmp_lt (tgt := 212) hx hb dX4_word_200 (by decide) (fun hc55 => ?_) (fun hc55 => ?_)
                    · have h := dm_t hc55 h
                      refine lv_iload hx hb dX4_word_212 (lv_at hl 1 rfl) ?_
                      refine lv_istore_n (lv' := [(2, .int x50), (3, .int (1 : Int32)), (6, .int x50), (5, .int x34), (4, .int v2), (1, .int v5), (0, .ref th)]) hx hb dX4_word_214 rfl hl (by decide) rfl (fun ls hl => ?_)
                      obtain ⟨x56, ex56⟩ : ∃ y : Int32, y = (v2 + (1 : Int32)) := ⟨_, rfl⟩
                      have h := dm_lu ex56 h
                      refine lv_iinc (v := x56) (lv' := [(4, .int x56), (2, .int x50), (3, .int (1 : Int32)), (6, .int x50), (5, .int x34), (1, .int v5), (0, .ref th)]) hx hb dX4_word_215 hl (k := 4) rfl (by rw [ex56]; rfl) (by decide) rfl (fun ls hl => ?_)
                      refine lv_goto (tgt := 16) hx hb dX4_word_218 (by decide) ?_
                      exact ih16 x56 (1 : Int32) x50 v5 w38 w39 w40 w41 w42 w43 w44 w45 H _ ls h (hP.sub [0, 1, 2, 3, 4, 5, 6] rfl) (hD.sub [0, 1, 2, 3, 4, 5, 6] (by decide) rfl) hS (lv_sub hl [0, 2, 1, 5, 6] rfl)
                    · have h := dm_f hc55 h
                      refine lv_aload_n hx hb dX4_word_203 rfl (lv_at hl 6 rfl) ?_
                      refine lv_iload hx hb dX4_word_204 (lv_at hl 1 rfl) ?_
                      obtain ⟨r57, w58, w59, w60, w61, w62, w63, w64, hk65, h⟩ := dm_b8s h
                      refine mc_i (wr := []) (va_runV (As := [.int x50]) (rest := []) ⟨hx, hb, hml, hown, hts⟩ (c_X4_inverseOf l dC dI cyI cyJ cyC th tqA tqB tqC tqL tqW tqO H.size tthr tdd tn tla tlb tlc w38 w39 w40 w41 w42 w43 w44 tsome tlast tlet twd w45 x50 r57 w58 w59 w60 w61 w62 w63 w64 hk65) (cwV 1 hts gX4_word_X4_inverseOf rfl rfl rfl (by decide +kernel) ⟨(Nat.le_of_ble_eq_true rfl), (Nat.le_of_ble_eq_true rfl)⟩) (mc_preV hK (hP.sub (ws' := [(th, .inr (4, [.int tthr, .int tdd, .int tn, .ref tqA, .ref tqB, .ref tqC, .long w38, .long w39, .long w40, .long w41, .long w42, .long w43, .long w44, .int tsome, .ref tqL, .int tlet, .ref tqW, .ref tqO])), (tqA, .inl (cyJ, 40, .inr (.inl tla))), (tqB, .inl (cyJ, 40, .inr (.inl tlb))), (tqC, .inl (cyJ, 40, .inr (.inl tlc))), (tqL, .inl (cyJ, 7, .inr (.inl tlast))), (tqW, .inl (cyC, 40, .inl twd)), (tqO, .inl (cyI, 5, .inl w45))]) [0, 1, 2, 3, 4, 5, 6] rfl) (hD.sub (ws' := [(th, .inr (4, [.int tthr, .int tdd, .int tn, .ref tqA, .ref tqB, .ref tqC, .long w38, .long w39, .long w40, .long w41, .long w42, .long w43, .long w44, .int tsome, .ref tqL, .int tlet, .ref tqW, .ref tqO])), (tqA, .inl (cyJ, 40, .inr (.inl tla))), (tqB, .inl (cyJ, 40, .inr (.inl tlb))), (tqC, .inl (cyJ, 40, .inr (.inl tlc))), (tqL, .inl (cyJ, 7, .inr (.inl tlast))), (tqW, .inl (cyC, 40, .inl twd)), (tqO, .inl (cyI, 5, .inl w45))]) [0, 1, 2, 3, 4, 5, 6] (by decide) rfl) hnw rfl rfl) rfl rfl hl.1 rfl (lv_room (Nat.le_of_ble_eq_true rfl)) dX4_word_206 ⟨Nat.zero_le _, Nat.zero_le _⟩) hP hD hS hA [0, 1, 2, 3, 4, 5, 6] [] rfl rfl rfl (by decide) (fun H locs hP hD hS => ?_)
                      have hP : va_P (dC, dI) vwCl [(th, .inr (4, [.int tthr, .int tdd, .int tn, .ref tqA, .ref tqB, .ref tqC, .long w58, .long w59, .long w60, .long w61, .long w62, .long w63, .long w64, .int tsome, .ref tqL, .int tlet, .ref tqW, .ref tqO])), (tqA, .inl (cyJ, 40, .inr (.inl tla))), (tqB, .inl (cyJ, 40, .inr (.inl tlb))), (tqC, .inl (cyJ, 40, .inr (.inl tlc))), (tqL, .inl (cyJ, 7, .inr (.inl tlast))), (tqW, .inl (cyC, 40, .inl twd)), (tqO, .inl (cyI, 5, .inl w45))] H := hP
                      have hD : va_D A [(th, .inr (4, [.int tthr, .int tdd, .int tn, .ref tqA, .ref tqB, .ref tqC, .long w58, .long w59, .long w60, .long w61, .long w62, .long w63, .long w64, .int tsome, .ref tqL, .int tlet, .ref tqW, .ref tqO])), (tqA, .inl (cyJ, 40, .inr (.inl tla))), (tqB, .inl (cyJ, 40, .inr (.inl tlb))), (tqC, .inl (cyJ, 40, .inr (.inl tlc))), (tqL, .inl (cyJ, 7, .inr (.inl tlast))), (tqW, .inl (cyC, 40, .inl twd)), (tqO, .inl (cyI, 5, .inl w45))] := hD
                      refine lv_goto (tgt := 214) hx hb dX4_word_209 (by decide) ?_
                      refine lv_istore_n (lv' := [(2, .int r57), (3, .int (1 : Int32)), (6, .int x50), (5, .int x34), (4, .int v2), (1, .int v5), (0, .ref th)]) hx hb dX4_word_214 rfl hl (by decide) rfl (fun ls hl => ?_)
                      obtain ⟨x66, ex66⟩ : ∃ y : Int32, y = (v2 + (1 : Int32)) := ⟨_, rfl⟩
                      have h := dm_lu ex66 h
                      refine lv_iinc (v := x66) (lv' := [(4, .int x66), (2, .int r57), (3, .int (1 : Int32)), (6, .int x50), (5, .int x34), (1, .int v5), (0, .ref th)]) hx hb dX4_word_215 hl (k := 4) rfl (by rw [ex66]; rfl) (by decide) rfl (fun ls hl => ?_)
                      refine lv_goto (tgt := 16) hx hb dX4_word_218 (by decide) ?_
                      exact ih16 x66 (1 : Int32) r57 v5 w58 w59 w60 w61 w62 w63 w64 w45 H _ ls h (hP.sub [0, 1, 2, 3, 4, 5, 6] rfl) (hD.sub [0, 1, 2, 3, 4, 5, 6] (by decide) rfl) hS (lv_sub hl [0, 2, 1, 5, 6] rfl)
                  · have h := dm_t hc54 h
                    refine lv_iconst (v := 0) hx hb dX4_word_192 (by decide) ?_
                    refine lv_goto (tgt := 214) hx hb dX4_word_193 (by decide) ?_
                    refine lv_istore_n (lv' := [(2, .int (0 : Int32)), (3, .int (1 : Int32)), (6, .int x50), (5, .int x34), (4, .int v2), (1, .int v5), (0, .ref th)]) hx hb dX4_word_214 rfl hl (by decide) rfl (fun ls hl => ?_)
                    obtain ⟨x67, ex67⟩ : ∃ y : Int32, y = (v2 + (1 : Int32)) := ⟨_, rfl⟩
                    have h := dm_lu ex67 h
                    refine lv_iinc (v := x67) (lv' := [(4, .int x67), (2, .int (0 : Int32)), (3, .int (1 : Int32)), (6, .int x50), (5, .int x34), (1, .int v5), (0, .ref th)]) hx hb dX4_word_215 hl (k := 4) rfl (by rw [ex67]; rfl) (by decide) rfl (fun ls hl => ?_)
                    refine lv_goto (tgt := 16) hx hb dX4_word_218 (by decide) ?_
                    exact ih16 x67 (1 : Int32) (0 : Int32) v5 w38 w39 w40 w41 w42 w43 w44 w45 H _ ls h (hP.sub [0, 1, 2, 3, 4, 5, 6] rfl) (hD.sub [0, 1, 2, 3, 4, 5, 6] (by decide) rfl) hS (lv_sub hl [0, 2, 1, 5, 6] rfl)
                · have h := dm_t hc51 h
                  refine lv_aload_n hx hb dX4_word_168 rfl (lv_at hl 6 rfl) ?_
                  refine lv_iload hx hb dX4_word_169 (lv_at hl 0 rfl) ?_
                  obtain ⟨r68, hk69, h⟩ := dm_b1s h
                  refine mc_i (wr := []) (va_runV (As := [.int x50]) (rest := []) ⟨hx, hb, hml, hown, hts⟩ (c_X4_isClass l dC dI cyI cyJ cyC th tqA tqB tqC tqL tqW tqO H.size tthr tdd tn tla tlb tlc w38 w39 w40 w41 w42 w43 w44 tsome tlast tlet twd w45 x50 r68 hk69) (cwV 1 hts gX4_word_X4_isClass rfl rfl rfl (by decide +kernel) ⟨(Nat.le_of_ble_eq_true rfl), (Nat.le_of_ble_eq_true rfl)⟩) (mc_preV hK (hP.sub (ws' := [(th, .inr (4, [.int tthr, .int tdd, .int tn, .ref tqA, .ref tqB, .ref tqC, .long w38, .long w39, .long w40, .long w41, .long w42, .long w43, .long w44, .int tsome, .ref tqL, .int tlet, .ref tqW, .ref tqO])), (tqA, .inl (cyJ, 40, .inr (.inl tla))), (tqB, .inl (cyJ, 40, .inr (.inl tlb))), (tqC, .inl (cyJ, 40, .inr (.inl tlc))), (tqL, .inl (cyJ, 7, .inr (.inl tlast))), (tqW, .inl (cyC, 40, .inl twd)), (tqO, .inl (cyI, 5, .inl w45))]) [0, 1, 2, 3, 4, 5, 6] rfl) (hD.sub (ws' := [(th, .inr (4, [.int tthr, .int tdd, .int tn, .ref tqA, .ref tqB, .ref tqC, .long w38, .long w39, .long w40, .long w41, .long w42, .long w43, .long w44, .int tsome, .ref tqL, .int tlet, .ref tqW, .ref tqO])), (tqA, .inl (cyJ, 40, .inr (.inl tla))), (tqB, .inl (cyJ, 40, .inr (.inl tlb))), (tqC, .inl (cyJ, 40, .inr (.inl tlc))), (tqL, .inl (cyJ, 7, .inr (.inl tlast))), (tqW, .inl (cyC, 40, .inl twd)), (tqO, .inl (cyI, 5, .inl w45))]) [0, 1, 2, 3, 4, 5, 6] (by decide) rfl) hnw rfl rfl) rfl rfl hl.1 rfl (lv_room (Nat.le_of_ble_eq_true rfl)) dX4_word_171 ⟨Nat.zero_le _, Nat.zero_le _⟩) hP hD hS hA [0, 1, 2, 3, 4, 5, 6] [] rfl rfl rfl (by decide) (fun H locs hP hD hS => ?_)
                  have hP : va_P (dC, dI) vwCl [(th, .inr (4, [.int tthr, .int tdd, .int tn, .ref tqA, .ref tqB, .ref tqC, .long w38, .long w39, .long w40, .long w41, .long w42, .long w43, .long w44, .int tsome, .ref tqL, .int tlet, .ref tqW, .ref tqO])), (tqA, .inl (cyJ, 40, .inr (.inl tla))), (tqB, .inl (cyJ, 40, .inr (.inl tlb))), (tqC, .inl (cyJ, 40, .inr (.inl tlc))), (tqL, .inl (cyJ, 7, .inr (.inl tlast))), (tqW, .inl (cyC, 40, .inl twd)), (tqO, .inl (cyI, 5, .inl w45))] H := hP
                  have hD : va_D A [(th, .inr (4, [.int tthr, .int tdd, .int tn, .ref tqA, .ref tqB, .ref tqC, .long w38, .long w39, .long w40, .long w41, .long w42, .long w43, .long w44, .int tsome, .ref tqL, .int tlet, .ref tqW, .ref tqO])), (tqA, .inl (cyJ, 40, .inr (.inl tla))), (tqB, .inl (cyJ, 40, .inr (.inl tlb))), (tqC, .inl (cyJ, 40, .inr (.inl tlc))), (tqL, .inl (cyJ, 7, .inr (.inl tlast))), (tqW, .inl (cyC, 40, .inl twd)), (tqO, .inl (cyI, 5, .inl w45))] := hD
                  refine lv_if_ne (tgt := 181) hx hb dX4_word_174 (by decide) (fun hc70 => ?_) (fun hc70 => ?_)
                  · have h := dm_f hc70 h
                    refine lv_iconst (v := 0) hx hb dX4_word_181 (by decide) ?_
                    refine lv_istore_n (lv' := [(3, .int (0 : Int32)), (6, .int x50), (2, .int (-1 : Int32)), (5, .int x34), (4, .int v2), (1, .int v5), (0, .ref th)]) hx hb dX4_word_182 rfl hl (by decide) rfl (fun ls hl => ?_)
                    refine lv_aload_n hx hb dX4_word_183 rfl (lv_at hl 6 rfl) ?_
                    refine lv_iload hx hb dX4_word_184 (lv_at hl 1 rfl) ?_
                    obtain ⟨r71, hk72, h⟩ := dm_b1s h
                    refine mc_i (wr := []) (va_runV (As := [.int x50]) (rest := []) ⟨hx, hb, hml, hown, hts⟩ (c_X4_isClass l dC dI cyI cyJ cyC th tqA tqB tqC tqL tqW tqO H.size tthr tdd tn tla tlb tlc w38 w39 w40 w41 w42 w43 w44 tsome tlast tlet twd w45 x50 r71 hk72) (cwV 1 hts gX4_word_X4_isClass rfl rfl rfl (by decide +kernel) ⟨(Nat.le_of_ble_eq_true rfl), (Nat.le_of_ble_eq_true rfl)⟩) (mc_preV hK (hP.sub (ws' := [(th, .inr (4, [.int tthr, .int tdd, .int tn, .ref tqA, .ref tqB, .ref tqC, .long w38, .long w39, .long w40, .long w41, .long w42, .long w43, .long w44, .int tsome, .ref tqL, .int tlet, .ref tqW, .ref tqO])), (tqA, .inl (cyJ, 40, .inr (.inl tla))), (tqB, .inl (cyJ, 40, .inr (.inl tlb))), (tqC, .inl (cyJ, 40, .inr (.inl tlc))), (tqL, .inl (cyJ, 7, .inr (.inl tlast))), (tqW, .inl (cyC, 40, .inl twd)), (tqO, .inl (cyI, 5, .inl w45))]) [0, 1, 2, 3, 4, 5, 6] rfl) (hD.sub (ws' := [(th, .inr (4, [.int tthr, .int tdd, .int tn, .ref tqA, .ref tqB, .ref tqC, .long w38, .long w39, .long w40, .long w41, .long w42, .long w43, .long w44, .int tsome, .ref tqL, .int tlet, .ref tqW, .ref tqO])), (tqA, .inl (cyJ, 40, .inr (.inl tla))), (tqB, .inl (cyJ, 40, .inr (.inl tlb))), (tqC, .inl (cyJ, 40, .inr (.inl tlc))), (tqL, .inl (cyJ, 7, .inr (.inl tlast))), (tqW, .inl (cyC, 40, .inl twd)), (tqO, .inl (cyI, 5, .inl w45))]) [0, 1, 2, 3, 4, 5, 6] (by decide) rfl) hnw rfl rfl) rfl rfl hl.1 rfl (lv_room (Nat.le_of_ble_eq_true rfl)) dX4_word_186 ⟨Nat.zero_le _, Nat.zero_le _⟩) hP hD hS hA [0, 1, 2, 3, 4, 5, 6] [] rfl rfl rfl (by decide) (fun H locs hP hD hS => ?_)
                    have hP : va_P (dC, dI) vwCl [(th, .inr (4, [.int tthr, .int tdd, .int tn, .ref tqA, .ref tqB, .ref tqC, .long w38, .long w39, .long w40, .long w41, .long w42, .long w43, .long w44, .int tsome, .ref tqL, .int tlet, .ref tqW, .ref tqO])), (tqA, .inl (cyJ, 40, .inr (.inl tla))), (tqB, .inl (cyJ, 40, .inr (.inl tlb))), (tqC, .inl (cyJ, 40, .inr (.inl tlc))), (tqL, .inl (cyJ, 7, .inr (.inl tlast))), (tqW, .inl (cyC, 40, .inl twd)), (tqO, .inl (cyI, 5, .inl w45))] H := hP
                    have hD : va_D A [(th, .inr (4, [.int tthr, .int tdd, .int tn, .ref tqA, .ref tqB, .ref tqC, .long w38, .long w39, .long w40, .long w41, .long w42, .long w43, .long w44, .int tsome, .ref tqL, .int tlet, .ref tqW, .ref tqO])), (tqA, .inl (cyJ, 40, .inr (.inl tla))), (tqB, .inl (cyJ, 40, .inr (.inl tlb))), (tqC, .inl (cyJ, 40, .inr (.inl tlc))), (tqL, .inl (cyJ, 7, .inr (.inl tlast))), (tqW, .inl (cyC, 40, .inl twd)), (tqO, .inl (cyI, 5, .inl w45))] := hD
                    refine lv_if_ne (tgt := 196) hx hb dX4_word_189 (by decide) (fun hc73 => ?_) (fun hc73 => ?_)
                    · have h := dm_f hc73 h
                      refine lv_iload hx hb dX4_word_196 (lv_at hl 3 rfl) ?_
                      refine lv_bipush (v := 97) hx hb dX4_word_198 (by decide) ?_
                      refine lv_icmp_lt (tgt := 212) hx hb dX4_word_200 (by decide) (fun hc74 => ?_) (fun hc74 => ?_)
                      · have h := dm_t hc74 h
                        refine lv_iload hx hb dX4_word_212 (lv_at hl 1 rfl) ?_
                        refine lv_istore_n (lv' := [(2, .int x50), (3, .int (0 : Int32)), (6, .int x50), (5, .int x34), (4, .int v2), (1, .int v5), (0, .ref th)]) hx hb dX4_word_214 rfl hl (by decide) rfl (fun ls hl => ?_)
                        obtain ⟨x75, ex75⟩ : ∃ y : Int32, y = (v2 + (1 : Int32)) := ⟨_, rfl⟩
                        have h := dm_lu ex75 h
                        refine lv_iinc (v := x75) (lv' := [(4, .int x75), (2, .int x50), (3, .int (0 : Int32)), (6, .int x50), (5, .int x34), (1, .int v5), (0, .ref th)]) hx hb dX4_word_215 hl (k := 4) rfl (by rw [ex75]; rfl) (by decide) rfl (fun ls hl => ?_)
                        refine lv_goto (tgt := 16) hx hb dX4_word_218 (by decide) ?_
                        exact ih16 x75 (0 : Int32) x50 v5 w38 w39 w40 w41 w42 w43 w44 w45 H _ ls h (hP.sub [0, 1, 2, 3, 4, 5, 6] rfl) (hD.sub [0, 1, 2, 3, 4, 5, 6] (by decide) rfl) hS (lv_sub hl [0, 2, 1, 5, 6] rfl)
                      · have h := dm_f hc74 h
                        refine lv_aload_n hx hb dX4_word_203 rfl (lv_at hl 6 rfl) ?_
                        refine lv_iload hx hb dX4_word_204 (lv_at hl 1 rfl) ?_
                        obtain ⟨r76, w77, w78, w79, w80, w81, w82, w83, hk84, h⟩ := dm_b8s h
                        refine mc_i (wr := []) (va_runV (As := [.int x50]) (rest := []) ⟨hx, hb, hml, hown, hts⟩ (c_X4_inverseOf l dC dI cyI cyJ cyC th tqA tqB tqC tqL tqW tqO H.size tthr tdd tn tla tlb tlc w38 w39 w40 w41 w42 w43 w44 tsome tlast tlet twd w45 x50 r76 w77 w78 w79 w80 w81 w82 w83 hk84) (cwV 1 hts gX4_word_X4_inverseOf rfl rfl rfl (by decide +kernel) ⟨(Nat.le_of_ble_eq_true rfl), (Nat.le_of_ble_eq_true rfl)⟩) (mc_preV hK (hP.sub (ws' := [(th, .inr (4, [.int tthr, .int tdd, .int tn, .ref tqA, .ref tqB, .ref tqC, .long w38, .long w39, .long w40, .long w41, .long w42, .long w43, .long w44, .int tsome, .ref tqL, .int tlet, .ref tqW, .ref tqO])), (tqA, .inl (cyJ, 40, .inr (.inl tla))), (tqB, .inl (cyJ, 40, .inr (.inl tlb))), (tqC, .inl (cyJ, 40, .inr (.inl tlc))), (tqL, .inl (cyJ, 7, .inr (.inl tlast))), (tqW, .inl (cyC, 40, .inl twd)), (tqO, .inl (cyI, 5, .inl w45))]) [0, 1, 2, 3, 4, 5, 6] rfl) (hD.sub (ws' := [(th, .inr (4, [.int tthr, .int tdd, .int tn, .ref tqA, .ref tqB, .ref tqC, .long w38, .long w39, .long w40, .long w41, .long w42, .long w43, .long w44, .int tsome, .ref tqL, .int tlet, .ref tqW, .ref tqO])), (tqA, .inl (cyJ, 40, .inr (.inl tla))), (tqB, .inl (cyJ, 40, .inr (.inl tlb))), (tqC, .inl (cyJ, 40, .inr (.inl tlc))), (tqL, .inl (cyJ, 7, .inr (.inl tlast))), (tqW, .inl (cyC, 40, .inl twd)), (tqO, .inl (cyI, 5, .inl w45))]) [0, 1, 2, 3, 4, 5, 6] (by decide) rfl) hnw rfl rfl) rfl rfl hl.1 rfl (lv_room (Nat.le_of_ble_eq_true rfl)) dX4_word_206 ⟨Nat.zero_le _, Nat.zero_le _⟩) hP hD hS hA [0, 1, 2, 3, 4, 5, 6] [] rfl rfl rfl (by decide) (fun H locs hP hD hS => ?_)
                        have hP : va_P (dC, dI) vwCl [(th, .inr (4, [.int tthr, .int tdd, .int tn, .ref tqA, .ref tqB, .ref tqC, .long w77, .long w78, .long w79, .long w80, .long w81, .long w82, .long w83, .int tsome, .ref tqL, .int tlet, .ref tqW, .ref tqO])), (tqA, .inl (cyJ, 40, .inr (.inl tla))), (tqB, .inl (cyJ, 40, .inr (.inl tlb))), (tqC, .inl (cyJ, 40, .inr (.inl tlc))), (tqL, .inl (cyJ, 7, .inr (.inl tlast))), (tqW, .inl (cyC, 40, .inl twd)), (tqO, .inl (cyI, 5, .inl w45))] H := hP
                        have hD : va_D A [(th, .inr (4, [.int tthr, .int tdd, .int tn, .ref tqA, .ref tqB, .ref tqC, .long w77, .long w78, .long w79, .long w80, .long w81, .long w82, .long w83, .int tsome, .ref tqL, .int tlet, .ref tqW, .ref tqO])), (tqA, .inl (cyJ, 40, .inr (.inl tla))), (tqB, .inl (cyJ, 40, .inr (.inl tlb))), (tqC, .inl (cyJ, 40, .inr (.inl tlc))), (tqL, .inl (cyJ, 7, .inr (.inl tlast))), (tqW, .inl (cyC, 40, .inl twd)), (tqO, .inl (cyI, 5, .inl w45))] := hD
                        refine lv_goto (tgt := 214) hx hb dX4_word_209 (by decide) ?_
                        refine lv_istore_n (lv' := [(2, .int r76), (3, .int (0 : Int32)), (6, .int x50), (5, .int x34), (4, .int v2), (1, .int v5), (0, .ref th)]) hx hb dX4_word_214 rfl hl (by decide) rfl (fun ls hl => ?_)
                        obtain ⟨x85, ex85⟩ : ∃ y : Int32, y = (v2 + (1 : Int32)) := ⟨_, rfl⟩
                        have h := dm_lu ex85 h
                        refine lv_iinc (v := x85) (lv' := [(4, .int x85), (2, .int r76), (3, .int (0 : Int32)), (6, .int x50), (5, .int x34), (1, .int v5), (0, .ref th)]) hx hb dX4_word_215 hl (k := 4) rfl (by rw [ex85]; rfl) (by decide) rfl (fun ls hl => ?_)
                        refine lv_goto (tgt := 16) hx hb dX4_word_218 (by decide) ?_
                        exact ih16 x85 (0 : Int32) r76 v5 w77 w78 w79 w80 w81 w82 w83 w45 H _ ls h (hP.sub [0, 1, 2, 3, 4, 5, 6] rfl) (hD.sub [0, 1, 2, 3, 4, 5, 6] (by decide) rfl) hS (lv_sub hl [0, 2, 1, 5, 6] rfl)
                    · have h := dm_t hc73 h
                      refine lv_iconst (v := 0) hx hb dX4_word_192 (by decide) ?_
                      refine lv_goto (tgt := 214) hx hb dX4_word_193 (by decide) ?_
                      refine lv_istore_n (lv' := [(2, .int (0 : Int32)), (3, .int (0 : Int32)), (6, .int x50), (5, .int x34), (4, .int v2), (1, .int v5), (0, .ref th)]) hx hb dX4_word_214 rfl hl (by decide) rfl (fun ls hl => ?_)
                      obtain ⟨x86, ex86⟩ : ∃ y : Int32, y = (v2 + (1 : Int32)) := ⟨_, rfl⟩
                      have h := dm_lu ex86 h
                      refine lv_iinc (v := x86) (lv' := [(4, .int x86), (2, .int (0 : Int32)), (3, .int (0 : Int32)), (6, .int x50), (5, .int x34), (1, .int v5), (0, .ref th)]) hx hb dX4_word_215 hl (k := 4) rfl (by rw [ex86]; rfl) (by decide) rfl (fun ls hl => ?_)
                      refine lv_goto (tgt := 16) hx hb dX4_word_218 (by decide) ?_
                      exact ih16 x86 (0 : Int32) (0 : Int32) v5 w38 w39 w40 w41 w42 w43 w44 w45 H _ ls h (hP.sub [0, 1, 2, 3, 4, 5, 6] rfl) (hD.sub [0, 1, 2, 3, 4, 5, 6] (by decide) rfl) hS (lv_sub hl [0, 2, 1, 5, 6] rfl)
                  · have h := dm_t hc70 h
                    refine lv_iconst (v := 1) hx hb dX4_word_177 (by decide) ?_
                    refine lv_goto (tgt := 182) hx hb dX4_word_178 (by decide) ?_
                    refine lv_istore_n (lv' := [(3, .int (1 : Int32)), (6, .int x50), (2, .int (-1 : Int32)), (5, .int x34), (4, .int v2), (1, .int v5), (0, .ref th)]) hx hb dX4_word_182 rfl hl (by decide) rfl (fun ls hl => ?_)
                    refine lv_aload_n hx hb dX4_word_183 rfl (lv_at hl 6 rfl) ?_
                    refine lv_iload hx hb dX4_word_184 (lv_at hl 1 rfl) ?_
                    obtain ⟨r87, hk88, h⟩ := dm_b1s h
                    refine mc_i (wr := []) (va_runV (As := [.int x50]) (rest := []) ⟨hx, hb, hml, hown, hts⟩ (c_X4_isClass l dC dI cyI cyJ cyC th tqA tqB tqC tqL tqW tqO H.size tthr tdd tn tla tlb tlc w38 w39 w40 w41 w42 w43 w44 tsome tlast tlet twd w45 x50 r87 hk88) (cwV 1 hts gX4_word_X4_isClass rfl rfl rfl (by decide +kernel) ⟨(Nat.le_of_ble_eq_true rfl), (Nat.le_of_ble_eq_true rfl)⟩) (mc_preV hK (hP.sub (ws' := [(th, .inr (4, [.int tthr, .int tdd, .int tn, .ref tqA, .ref tqB, .ref tqC, .long w38, .long w39, .long w40, .long w41, .long w42, .long w43, .long w44, .int tsome, .ref tqL, .int tlet, .ref tqW, .ref tqO])), (tqA, .inl (cyJ, 40, .inr (.inl tla))), (tqB, .inl (cyJ, 40, .inr (.inl tlb))), (tqC, .inl (cyJ, 40, .inr (.inl tlc))), (tqL, .inl (cyJ, 7, .inr (.inl tlast))), (tqW, .inl (cyC, 40, .inl twd)), (tqO, .inl (cyI, 5, .inl w45))]) [0, 1, 2, 3, 4, 5, 6] rfl) (hD.sub (ws' := [(th, .inr (4, [.int tthr, .int tdd, .int tn, .ref tqA, .ref tqB, .ref tqC, .long w38, .long w39, .long w40, .long w41, .long w42, .long w43, .long w44, .int tsome, .ref tqL, .int tlet, .ref tqW, .ref tqO])), (tqA, .inl (cyJ, 40, .inr (.inl tla))), (tqB, .inl (cyJ, 40, .inr (.inl tlb))), (tqC, .inl (cyJ, 40, .inr (.inl tlc))), (tqL, .inl (cyJ, 7, .inr (.inl tlast))), (tqW, .inl (cyC, 40, .inl twd)), (tqO, .inl (cyI, 5, .inl w45))]) [0, 1, 2, 3, 4, 5, 6] (by decide) rfl) hnw rfl rfl) rfl rfl hl.1 rfl (lv_room (Nat.le_of_ble_eq_true rfl)) dX4_word_186 ⟨Nat.zero_le _, Nat.zero_le _⟩) hP hD hS hA [0, 1, 2, 3, 4, 5, 6] [] rfl rfl rfl (by decide) (fun H locs hP hD hS => ?_)
                    have hP : va_P (dC, dI) vwCl [(th, .inr (4, [.int tthr, .int tdd, .int tn, .ref tqA, .ref tqB, .ref tqC, .long w38, .long w39, .long w40, .long w41, .long w42, .long w43, .long w44, .int tsome, .ref tqL, .int tlet, .ref tqW, .ref tqO])), (tqA, .inl (cyJ, 40, .inr (.inl tla))), (tqB, .inl (cyJ, 40, .inr (.inl tlb))), (tqC, .inl (cyJ, 40, .inr (.inl tlc))), (tqL, .inl (cyJ, 7, .inr (.inl tlast))), (tqW, .inl (cyC, 40, .inl twd)), (tqO, .inl (cyI, 5, .inl w45))] H := hP
                    have hD : va_D A [(th, .inr (4, [.int tthr, .int tdd, .int tn, .ref tqA, .ref tqB, .ref tqC, .long w38, .long w39, .long w40, .long w41, .long w42, .long w43, .long w44, .int tsome, .ref tqL, .int tlet, .ref tqW, .ref tqO])), (tqA, .inl (cyJ, 40, .inr (.inl tla))), (tqB, .inl (cyJ, 40, .inr (.inl tlb))), (tqC, .inl (cyJ, 40, .inr (.inl tlc))), (tqL, .inl (cyJ, 7, .inr (.inl tlast))), (tqW, .inl (cyC, 40, .inl twd)), (tqO, .inl (cyI, 5, .inl w45))] := hD
                    refine lv_if_ne (tgt := 196) hx hb dX4_word_189 (by decide) (fun hc89 => ?_) (fun hc89 => ?_)
                    · have h := dm_f hc89 h
                      refine lv_iload hx hb dX4_word_196 (lv_at hl 3 rfl) ?_
                      refine lv_bipush (v := 97) hx hb dX4_word_198 (by decide) ?_
                      refine lv_icmp_lt (tgt := 212) hx hb dX4_word_200 (by decide) (fun hc90 => ?_) (fun hc90 => ?_)
                      · have h := dm_t hc90 h
                        refine lv_iload hx hb dX4_word_212 (lv_at hl 1 rfl) ?_
                        refine lv_istore_n (lv' := [(2, .int x50), (3, .int (1 : Int32)), (6, .int x50), (5, .int x34), (4, .int v2), (1, .int v5), (0, .ref th)]) hx hb dX4_word_214 rfl hl (by decide) rfl (fun ls hl => ?_)
                        obtain ⟨x91, ex91⟩ : ∃ y : Int32, y = (v2 + (1 : Int32)) := ⟨_, rfl⟩
                        have h := dm_lu ex91 h
                        refine lv_iinc (v := x91) (lv' := [(4, .int x91), (2, .int x50), (3, .int (1 : Int32)), (6, .int x50), (5, .int x34), (1, .int v5), (0, .ref th)]) hx hb dX4_word_215 hl (k := 4) rfl (by rw [ex91]; rfl) (by decide) rfl (fun ls hl => ?_)
                        refine lv_goto (tgt := 16) hx hb dX4_word_218 (by decide) ?_
                        exact ih16 x91 (1 : Int32) x50 v5 w38 w39 w40 w41 w42 w43 w44 w45 H _ ls h (hP.sub [0, 1, 2, 3, 4, 5, 6] rfl) (hD.sub [0, 1, 2, 3, 4, 5, 6] (by decide) rfl) hS (lv_sub hl [0, 2, 1, 5, 6] rfl)
                      · have h := dm_f hc90 h
                        refine lv_aload_n hx hb dX4_word_203 rfl (lv_at hl 6 rfl) ?_
                        refine lv_iload hx hb dX4_word_204 (lv_at hl 1 rfl) ?_
                        obtain ⟨r92, w93, w94, w95, w96, w97, w98, w99, hk100, h⟩ := dm_b8s h
                        refine mc_i (wr := []) (va_runV (As := [.int x50]) (rest := []) ⟨hx, hb, hml, hown, hts⟩ (c_X4_inverseOf l dC dI cyI cyJ cyC th tqA tqB tqC tqL tqW tqO H.size tthr tdd tn tla tlb tlc w38 w39 w40 w41 w42 w43 w44 tsome tlast tlet twd w45 x50 r92 w93 w94 w95 w96 w97 w98 w99 hk100) (cwV 1 hts gX4_word_X4_inverseOf rfl rfl rfl (by decide +kernel) ⟨(Nat.le_of_ble_eq_true rfl), (Nat.le_of_ble_eq_true rfl)⟩) (mc_preV hK (hP.sub (ws' := [(th, .inr (4, [.int tthr, .int tdd, .int tn, .ref tqA, .ref tqB, .ref tqC, .long w38, .long w39, .long w40, .long w41, .long w42, .long w43, .long w44, .int tsome, .ref tqL, .int tlet, .ref tqW, .ref tqO])), (tqA, .inl (cyJ, 40, .inr (.inl tla))), (tqB, .inl (cyJ, 40, .inr (.inl tlb))), (tqC, .inl (cyJ, 40, .inr (.inl tlc))), (tqL, .inl (cyJ, 7, .inr (.inl tlast))), (tqW, .inl (cyC, 40, .inl twd)), (tqO, .inl (cyI, 5, .inl w45))]) [0, 1, 2, 3, 4, 5, 6] rfl) (hD.sub (ws' := [(th, .inr (4, [.int tthr, .int tdd, .int tn, .ref tqA, .ref tqB, .ref tqC, .long w38, .long w39, .long w40, .long w41, .long w42, .long w43, .long w44, .int tsome, .ref tqL, .int tlet, .ref tqW, .ref tqO])), (tqA, .inl (cyJ, 40, .inr (.inl tla))), (tqB, .inl (cyJ, 40, .inr (.inl tlb))), (tqC, .inl (cyJ, 40, .inr (.inl tlc))), (tqL, .inl (cyJ, 7, .inr (.inl tlast))), (tqW, .inl (cyC, 40, .inl twd)), (tqO, .inl (cyI, 5, .inl w45))]) [0, 1, 2, 3, 4, 5, 6] (by decide) rfl) hnw rfl rfl) rfl rfl hl.1 rfl (lv_room (Nat.le_of_ble_eq_true rfl)) dX4_word_206 ⟨Nat.zero_le _, Nat.zero_le _⟩) hP hD hS hA [0, 1, 2, 3, 4, 5, 6] [] rfl rfl rfl (by decide) (fun H locs hP hD hS => ?_)
                        have hP : va_P (dC, dI) vwCl [(th, .inr (4, [.int tthr, .int tdd, .int tn, .ref tqA, .ref tqB, .ref tqC, .long w93, .long w94, .long w95, .long w96, .long w97, .long w98, .long w99, .int tsome, .ref tqL, .int tlet, .ref tqW, .ref tqO])), (tqA, .inl (cyJ, 40, .inr (.inl tla))), (tqB, .inl (cyJ, 40, .inr (.inl tlb))), (tqC, .inl (cyJ, 40, .inr (.inl tlc))), (tqL, .inl (cyJ, 7, .inr (.inl tlast))), (tqW, .inl (cyC, 40, .inl twd)), (tqO, .inl (cyI, 5, .inl w45))] H := hP
                        have hD : va_D A [(th, .inr (4, [.int tthr, .int tdd, .int tn, .ref tqA, .ref tqB, .ref tqC, .long w93, .long w94, .long w95, .long w96, .long w97, .long w98, .long w99, .int tsome, .ref tqL, .int tlet, .ref tqW, .ref tqO])), (tqA, .inl (cyJ, 40, .inr (.inl tla))), (tqB, .inl (cyJ, 40, .inr (.inl tlb))), (tqC, .inl (cyJ, 40, .inr (.inl tlc))), (tqL, .inl (cyJ, 7, .inr (.inl tlast))), (tqW, .inl (cyC, 40, .inl twd)), (tqO, .inl (cyI, 5, .inl w45))] := hD
                        refine lv_goto (tgt := 214) hx hb dX4_word_209 (by decide) ?_
                        refine lv_istore_n (lv' := [(2, .int r92), (3, .int (1 : Int32)), (6, .int x50), (5, .int x34), (4, .int v2), (1, .int v5), (0, .ref th)]) hx hb dX4_word_214 rfl hl (by decide) rfl (fun ls hl => ?_)
                        obtain ⟨x101, ex101⟩ : ∃ y : Int32, y = (v2 + (1 : Int32)) := ⟨_, rfl⟩
                        have h := dm_lu ex101 h
                        refine lv_iinc (v := x101) (lv' := [(4, .int x101), (2, .int r92), (3, .int (1 : Int32)), (6, .int x50), (5, .int x34), (1, .int v5), (0, .ref th)]) hx hb dX4_word_215 hl (k := 4) rfl (by rw [ex101]; rfl) (by decide) rfl (fun ls hl => ?_)
                        refine lv_goto (tgt := 16) hx hb dX4_word_218 (by decide) ?_
                        exact ih16 x101 (1 : Int32) r92 v5 w93 w94 w95 w96 w97 w98 w99 w45 H _ ls h (hP.sub [0, 1, 2, 3, 4, 5, 6] rfl) (hD.sub [0, 1, 2, 3, 4, 5, 6] (by decide) rfl) hS (lv_sub hl [0, 2, 1, 5, 6] rfl)
                    · have h := dm_t hc89 h
                      refine lv_iconst (v := 0) hx hb dX4_word_192 (by decide) ?_
                      refine lv_goto (tgt := 214) hx hb dX4_word_193 (by decide) ?_
                      refine lv_istore_n (lv' := [(2, .int (0 : Int32)), (3, .int (1 : Int32)), (6, .int x50), (5, .int x34), (4, .int v2), (1, .int v5), (0, .ref th)]) hx hb dX4_word_214 rfl hl (by decide) rfl (fun ls hl => ?_)
                      obtain ⟨x102, ex102⟩ : ∃ y : Int32, y = (v2 + (1 : Int32)) := ⟨_, rfl⟩
                      have h := dm_lu ex102 h
                      refine lv_iinc (v := x102) (lv' := [(4, .int x102), (2, .int (0 : Int32)), (3, .int (1 : Int32)), (6, .int x50), (5, .int x34), (1, .int v5), (0, .ref th)]) hx hb dX4_word_215 hl (k := 4) rfl (by rw [ex102]; rfl) (by decide) rfl (fun ls hl => ?_)
                      refine lv_goto (tgt := 16) hx hb dX4_word_218 (by decide) ?_
                      exact ih16 x102 (1 : Int32) (0 : Int32) v5 w38 w39 w40 w41 w42 w43 w44 w45 H _ ls h (hP.sub [0, 1, 2, 3, 4, 5, 6] rfl) (hD.sub [0, 1, 2, 3, 4, 5, 6] (by decide) rfl) hS (lv_sub hl [0, 2, 1, 5, 6] rfl)
              · have h := dm_f hc49 h
                refine lv_iload hx hb dX4_word_149 (lv_at hl 1 rfl) ?_
                refine lv_bipush (v := 97) hx hb dX4_word_151 (by decide) ?_
                refine lv_isub hx hb dX4_word_153 ?_
                refine lv_goto (tgt := 162) hx hb dX4_word_154 (by decide) ?_
                refine lv_topi (fun x103 ex103 => ?_)
                have h := dm_lu ex103 h
                refine lv_istore (lv' := [(6, .int x103), (2, .int (-1 : Int32)), (5, .int x34), (4, .int v2), (3, .int v3), (1, .int v5), (0, .ref th)]) hx hb dX4_word_162 hl (by decide) rfl (fun ls hl => ?_)
                refine lv_iload_n hx hb dX4_word_164 rfl (lv_at hl 4 rfl) ?_
                refine lv_if_ne (tgt := 177) hx hb dX4_word_165 (by decide) (fun hc104 => ?_) (fun hc104 => ?_)
                · have h := dm_f hc104 h
                  refine lv_iconst (v := 1) hx hb dX4_word_177 (by decide) ?_
                  refine lv_goto (tgt := 182) hx hb dX4_word_178 (by decide) ?_
                  refine lv_istore_n (lv' := [(3, .int (1 : Int32)), (6, .int x103), (2, .int (-1 : Int32)), (5, .int x34), (4, .int v2), (1, .int v5), (0, .ref th)]) hx hb dX4_word_182 rfl hl (by decide) rfl (fun ls hl => ?_)
                  refine lv_aload_n hx hb dX4_word_183 rfl (lv_at hl 6 rfl) ?_
                  refine lv_iload hx hb dX4_word_184 (lv_at hl 1 rfl) ?_
                  obtain ⟨r105, hk106, h⟩ := dm_b1s h
                  refine mc_i (wr := []) (va_runV (As := [.int x103]) (rest := []) ⟨hx, hb, hml, hown, hts⟩ (c_X4_isClass l dC dI cyI cyJ cyC th tqA tqB tqC tqL tqW tqO H.size tthr tdd tn tla tlb tlc w38 w39 w40 w41 w42 w43 w44 tsome tlast tlet twd w45 x103 r105 hk106) (cwV 1 hts gX4_word_X4_isClass rfl rfl rfl (by decide +kernel) ⟨(Nat.le_of_ble_eq_true rfl), (Nat.le_of_ble_eq_true rfl)⟩) (mc_preV hK (hP.sub (ws' := [(th, .inr (4, [.int tthr, .int tdd, .int tn, .ref tqA, .ref tqB, .ref tqC, .long w38, .long w39, .long w40, .long w41, .long w42, .long w43, .long w44, .int tsome, .ref tqL, .int tlet, .ref tqW, .ref tqO])), (tqA, .inl (cyJ, 40, .inr (.inl tla))), (tqB, .inl (cyJ, 40, .inr (.inl tlb))), (tqC, .inl (cyJ, 40, .inr (.inl tlc))), (tqL, .inl (cyJ, 7, .inr (.inl tlast))), (tqW, .inl (cyC, 40, .inl twd)), (tqO, .inl (cyI, 5, .inl w45))]) [0, 1, 2, 3, 4, 5, 6] rfl) (hD.sub (ws' := [(th, .inr (4, [.int tthr, .int tdd, .int tn, .ref tqA, .ref tqB, .ref tqC, .long w38, .long w39, .long w40, .long w41, .long w42, .long w43, .long w44, .int tsome, .ref tqL, .int tlet, .ref tqW, .ref tqO])), (tqA, .inl (cyJ, 40, .inr (.inl tla))), (tqB, .inl (cyJ, 40, .inr (.inl tlb))), (tqC, .inl (cyJ, 40, .inr (.inl tlc))), (tqL, .inl (cyJ, 7, .inr (.inl tlast))), (tqW, .inl (cyC, 40, .inl twd)), (tqO, .inl (cyI, 5, .inl w45))]) [0, 1, 2, 3, 4, 5, 6] (by decide) rfl) hnw rfl rfl) rfl rfl hl.1 rfl (lv_room (Nat.le_of_ble_eq_true rfl)) dX4_word_186 ⟨Nat.zero_le _, Nat.zero_le _⟩) hP hD hS hA [0, 1, 2, 3, 4, 5, 6] [] rfl rfl rfl (by decide) (fun H locs hP hD hS => ?_)
                  have hP : va_P (dC, dI) vwCl [(th, .inr (4, [.int tthr, .int tdd, .int tn, .ref tqA, .ref tqB, .ref tqC, .long w38, .long w39, .long w40, .long w41, .long w42, .long w43, .long w44, .int tsome, .ref tqL, .int tlet, .ref tqW, .ref tqO])), (tqA, .inl (cyJ, 40, .inr (.inl tla))), (tqB, .inl (cyJ, 40, .inr (.inl tlb))), (tqC, .inl (cyJ, 40, .inr (.inl tlc))), (tqL, .inl (cyJ, 7, .inr (.inl tlast))), (tqW, .inl (cyC, 40, .inl twd)), (tqO, .inl (cyI, 5, .inl w45))] H := hP
                  have hD : va_D A [(th, .inr (4, [.int tthr, .int tdd, .int tn, .ref tqA, .ref tqB, .ref tqC, .long w38, .long w39, .long w40, .long w41, .long w42, .long w43, .long w44, .int tsome, .ref tqL, .int tlet, .ref tqW, .ref tqO])), (tqA, .inl (cyJ, 40, .inr (.inl tla))), (tqB, .inl (cyJ, 40, .inr (.inl tlb))), (tqC, .inl (cyJ, 40, .inr (.inl tlc))), (tqL, .inl (cyJ, 7, .inr (.inl tlast))), (tqW, .inl (cyC, 40, .inl twd)), (tqO, .inl (cyI, 5, .inl w45))] := hD
                  refine lv_if_ne (tgt := 196) hx hb dX4_word_189 (by decide) (fun hc107 => ?_) (fun hc107 => ?_)
                  · have h := dm_f hc107 h
                    refine lv_iload hx hb dX4_word_196 (lv_at hl 3 rfl) ?_
                    refine lv_bipush (v := 97) hx hb dX4_word_198 (by decide) ?_
                    refine lv_icmp_lt (tgt := 212) hx hb dX4_word_200 (by decide) (fun hc108 => ?_) (fun hc108 => ?_)
                    · have h := dm_t hc108 h
                      refine lv_iload hx hb dX4_word_212 (lv_at hl 1 rfl) ?_
                      refine lv_istore_n (lv' := [(2, .int x103), (3, .int (1 : Int32)), (6, .int x103), (5, .int x34), (4, .int v2), (1, .int v5), (0, .ref th)]) hx hb dX4_word_214 rfl hl (by decide) rfl (fun ls hl => ?_)
                      obtain ⟨x109, ex109⟩ : ∃ y : Int32, y = (v2 + (1 : Int32)) := ⟨_, rfl⟩
                      have h := dm_lu ex109 h
                      refine lv_iinc (v := x109) (lv' := [(4, .int x109), (2, .int x103), (3, .int (1 : Int32)), (6, .int x103), (5, .int x34), (1, .int v5), (0, .ref th)]) hx hb dX4_word_215 hl (k := 4) rfl (by rw [ex109]; rfl) (by decide) rfl (fun ls hl => ?_)
                      refine lv_goto (tgt := 16) hx hb dX4_word_218 (by decide) ?_
                      exact ih16 x109 (1 : Int32) x103 v5 w38 w39 w40 w41 w42 w43 w44 w45 H _ ls h (hP.sub [0, 1, 2, 3, 4, 5, 6] rfl) (hD.sub [0, 1, 2, 3, 4, 5, 6] (by decide) rfl) hS (lv_sub hl [0, 2, 1, 5, 6] rfl)
                    · have h := dm_f hc108 h
                      refine lv_aload_n hx hb dX4_word_203 rfl (lv_at hl 6 rfl) ?_
                      refine lv_iload hx hb dX4_word_204 (lv_at hl 1 rfl) ?_
                      obtain ⟨r110, w111, w112, w113, w114, w115, w116, w117, hk118, h⟩ := dm_b8s h
                      refine mc_i (wr := []) (va_runV (As := [.int x103]) (rest := []) ⟨hx, hb, hml, hown, hts⟩ (c_X4_inverseOf l dC dI cyI cyJ cyC th tqA tqB tqC tqL tqW tqO H.size tthr tdd tn tla tlb tlc w38 w39 w40 w41 w42 w43 w44 tsome tlast tlet twd w45 x103 r110 w111 w112 w113 w114 w115 w116 w117 hk118) (cwV 1 hts gX4_word_X4_inverseOf rfl rfl rfl (by decide +kernel) ⟨(Nat.le_of_ble_eq_true rfl), (Nat.le_of_ble_eq_true rfl)⟩) (mc_preV hK (hP.sub (ws' := [(th, .inr (4, [.int tthr, .int tdd, .int tn, .ref tqA, .ref tqB, .ref tqC, .long w38, .long w39, .long w40, .long w41, .long w42, .long w43, .long w44, .int tsome, .ref tqL, .int tlet, .ref tqW, .ref tqO])), (tqA, .inl (cyJ, 40, .inr (.inl tla))), (tqB, .inl (cyJ, 40, .inr (.inl tlb))), (tqC, .inl (cyJ, 40, .inr (.inl tlc))), (tqL, .inl (cyJ, 7, .inr (.inl tlast))), (tqW, .inl (cyC, 40, .inl twd)), (tqO, .inl (cyI, 5, .inl w45))]) [0, 1, 2, 3, 4, 5, 6] rfl) (hD.sub (ws' := [(th, .inr (4, [.int tthr, .int tdd, .int tn, .ref tqA, .ref tqB, .ref tqC, .long w38, .long w39, .long w40, .long w41, .long w42, .long w43, .long w44, .int tsome, .ref tqL, .int tlet, .ref tqW, .ref tqO])), (tqA, .inl (cyJ, 40, .inr (.inl tla))), (tqB, .inl (cyJ, 40, .inr (.inl tlb))), (tqC, .inl (cyJ, 40, .inr (.inl tlc))), (tqL, .inl (cyJ, 7, .inr (.inl tlast))), (tqW, .inl (cyC, 40, .inl twd)), (tqO, .inl (cyI, 5, .inl w45))]) [0, 1, 2, 3, 4, 5, 6] (by decide) rfl) hnw rfl rfl) rfl rfl hl.1 rfl (lv_room (Nat.le_of_ble_eq_true rfl)) dX4_word_206 ⟨Nat.zero_le _, Nat.zero_le _⟩) hP hD hS hA [0, 1, 2, 3, 4, 5, 6] [] rfl rfl rfl (by decide) (fun H locs hP hD hS => ?_)
                      have hP : va_P (dC, dI) vwCl [(th, .inr (4, [.int tthr, .int tdd, .int tn, .ref tqA, .ref tqB, .ref tqC, .long w111, .long w112, .long w113, .long w114, .long w115, .long w116, .long w117, .int tsome, .ref tqL, .int tlet, .ref tqW, .ref tqO])), (tqA, .inl (cyJ, 40, .inr (.inl tla))), (tqB, .inl (cyJ, 40, .inr (.inl tlb))), (tqC, .inl (cyJ, 40, .inr (.inl tlc))), (tqL, .inl (cyJ, 7, .inr (.inl tlast))), (tqW, .inl (cyC, 40, .inl twd)), (tqO, .inl (cyI, 5, .inl w45))] H := hP
                      have hD : va_D A [(th, .inr (4, [.int tthr, .int tdd, .int tn, .ref tqA, .ref tqB, .ref tqC, .long w111, .long w112, .long w113, .long w114, .long w115, .long w116, .long w117, .int tsome, .ref tqL, .int tlet, .ref tqW, .ref tqO])), (tqA, .inl (cyJ, 40, .inr (.inl tla))), (tqB, .inl (cyJ, 40, .inr (.inl tlb))), (tqC, .inl (cyJ, 40, .inr (.inl tlc))), (tqL, .inl (cyJ, 7, .inr (.inl tlast))), (tqW, .inl (cyC, 40, .inl twd)), (tqO, .inl (cyI, 5, .inl w45))] := hD
                      refine lv_goto (tgt := 214) hx hb dX4_word_209 (by decide) ?_
                      refine lv_istore_n (lv' := [(2, .int r110), (3, .int (1 : Int32)), (6, .int x103), (5, .int x34), (4, .int v2), (1, .int v5), (0, .ref th)]) hx hb dX4_word_214 rfl hl (by decide) rfl (fun ls hl => ?_)
                      obtain ⟨x119, ex119⟩ : ∃ y : Int32, y = (v2 + (1 : Int32)) := ⟨_, rfl⟩
                      have h := dm_lu ex119 h
                      refine lv_iinc (v := x119) (lv' := [(4, .int x119), (2, .int r110), (3, .int (1 : Int32)), (6, .int x103), (5, .int x34), (1, .int v5), (0, .ref th)]) hx hb dX4_word_215 hl (k := 4) rfl (by rw [ex119]; rfl) (by decide) rfl (fun ls hl => ?_)
                      refine lv_goto (tgt := 16) hx hb dX4_word_218 (by decide) ?_
                      exact ih16 x119 (1 : Int32) r110 v5 w111 w112 w113 w114 w115 w116 w117 w45 H _ ls h (hP.sub [0, 1, 2, 3, 4, 5, 6] rfl) (hD.sub [0, 1, 2, 3, 4, 5, 6] (by decide) rfl) hS (lv_sub hl [0, 2, 1, 5, 6] rfl)
                  · have h := dm_t hc107 h
                    refine lv_iconst (v := 0) hx hb dX4_word_192 (by decide) ?_
                    refine lv_goto (tgt := 214) hx hb dX4_word_193 (by decide) ?_
                    refine lv_istore_n (lv' := [(2, .int (0 : Int32)), (3, .int (1 : Int32)), (6, .int x103), (5, .int x34), (4, .int v2), (1, .int v5), (0, .ref th)]) hx hb dX4_word_214 rfl hl (by decide) rfl (fun ls hl => ?_)
                    obtain ⟨x120, ex120⟩ : ∃ y : Int32, y = (v2 + (1 : Int32)) := ⟨_, rfl⟩
                    have h := dm_lu ex120 h
                    refine lv_iinc (v := x120) (lv' := [(4, .int x120), (2, .int (0 : Int32)), (3, .int (1 : Int32)), (6, .int x103), (5, .int x34), (1, .int v5), (0, .ref th)]) hx hb dX4_word_215 hl (k := 4) rfl (by rw [ex120]; rfl) (by decide) rfl (fun ls hl => ?_)
                    refine lv_goto (tgt := 16) hx hb dX4_word_218 (by decide) ?_
                    exact ih16 x120 (1 : Int32) (0 : Int32) v5 w38 w39 w40 w41 w42 w43 w44 w45 H _ ls h (hP.sub [0, 1, 2, 3, 4, 5, 6] rfl) (hD.sub [0, 1, 2, 3, 4, 5, 6] (by decide) rfl) hS (lv_sub hl [0, 2, 1, 5, 6] rfl)
                · have h := dm_t hc104 h
                  refine lv_aload_n hx hb dX4_word_168 rfl (lv_at hl 6 rfl) ?_
                  refine lv_iload hx hb dX4_word_169 (lv_at hl 0 rfl) ?_
                  obtain ⟨r121, hk122, h⟩ := dm_b1s h
                  refine mc_i (wr := []) (va_runV (As := [.int x103]) (rest := []) ⟨hx, hb, hml, hown, hts⟩ (c_X4_isClass l dC dI cyI cyJ cyC th tqA tqB tqC tqL tqW tqO H.size tthr tdd tn tla tlb tlc w38 w39 w40 w41 w42 w43 w44 tsome tlast tlet twd w45 x103 r121 hk122) (cwV 1 hts gX4_word_X4_isClass rfl rfl rfl (by decide +kernel) ⟨(Nat.le_of_ble_eq_true rfl), (Nat.le_of_ble_eq_true rfl)⟩) (mc_preV hK (hP.sub (ws' := [(th, .inr (4, [.int tthr, .int tdd, .int tn, .ref tqA, .ref tqB, .ref tqC, .long w38, .long w39, .long w40, .long w41, .long w42, .long w43, .long w44, .int tsome, .ref tqL, .int tlet, .ref tqW, .ref tqO])), (tqA, .inl (cyJ, 40, .inr (.inl tla))), (tqB, .inl (cyJ, 40, .inr (.inl tlb))), (tqC, .inl (cyJ, 40, .inr (.inl tlc))), (tqL, .inl (cyJ, 7, .inr (.inl tlast))), (tqW, .inl (cyC, 40, .inl twd)), (tqO, .inl (cyI, 5, .inl w45))]) [0, 1, 2, 3, 4, 5, 6] rfl) (hD.sub (ws' := [(th, .inr (4, [.int tthr, .int tdd, .int tn, .ref tqA, .ref tqB, .ref tqC, .long w38, .long w39, .long w40, .long w41, .long w42, .long w43, .long w44, .int tsome, .ref tqL, .int tlet, .ref tqW, .ref tqO])), (tqA, .inl (cyJ, 40, .inr (.inl tla))), (tqB, .inl (cyJ, 40, .inr (.inl tlb))), (tqC, .inl (cyJ, 40, .inr (.inl tlc))), (tqL, .inl (cyJ, 7, .inr (.inl tlast))), (tqW, .inl (cyC, 40, .inl twd)), (tqO, .inl (cyI, 5, .inl w45))]) [0, 1, 2, 3, 4, 5, 6] (by decide) rfl) hnw rfl rfl) rfl rfl hl.1 rfl (lv_room (Nat.le_of_ble_eq_true rfl)) dX4_word_171 ⟨Nat.zero_le _, Nat.zero_le _⟩) hP hD hS hA [0, 1, 2, 3, 4, 5, 6] [] rfl rfl rfl (by decide) (fun H locs hP hD hS => ?_)
                  have hP : va_P (dC, dI) vwCl [(th, .inr (4, [.int tthr, .int tdd, .int tn, .ref tqA, .ref tqB, .ref tqC, .long w38, .long w39, .long w40, .long w41, .long w42, .long w43, .long w44, .int tsome, .ref tqL, .int tlet, .ref tqW, .ref tqO])), (tqA, .inl (cyJ, 40, .inr (.inl tla))), (tqB, .inl (cyJ, 40, .inr (.inl tlb))), (tqC, .inl (cyJ, 40, .inr (.inl tlc))), (tqL, .inl (cyJ, 7, .inr (.inl tlast))), (tqW, .inl (cyC, 40, .inl twd)), (tqO, .inl (cyI, 5, .inl w45))] H := hP
                  have hD : va_D A [(th, .inr (4, [.int tthr, .int tdd, .int tn, .ref tqA, .ref tqB, .ref tqC, .long w38, .long w39, .long w40, .long w41, .long w42, .long w43, .long w44, .int tsome, .ref tqL, .int tlet, .ref tqW, .ref tqO])), (tqA, .inl (cyJ, 40, .inr (.inl tla))), (tqB, .inl (cyJ, 40, .inr (.inl tlb))), (tqC, .inl (cyJ, 40, .inr (.inl tlc))), (tqL, .inl (cyJ, 7, .inr (.inl tlast))), (tqW, .inl (cyC, 40, .inl twd)), (tqO, .inl (cyI, 5, .inl w45))] := hD
                  refine lv_if_ne (tgt := 181) hx hb dX4_word_174 (by decide) (fun hc123 => ?_) (fun hc123 => ?_)
                  · have h := dm_f hc123 h
                    refine lv_iconst (v := 0) hx hb dX4_word_181 (by decide) ?_
                    refine lv_istore_n (lv' := [(3, .int (0 : Int32)), (6, .int x103), (2, .int (-1 : Int32)), (5, .int x34), (4, .int v2), (1, .int v5), (0, .ref th)]) hx hb dX4_word_182 rfl hl (by decide) rfl (fun ls hl => ?_)
                    refine lv_aload_n hx hb dX4_word_183 rfl (lv_at hl 6 rfl) ?_
                    refine lv_iload hx hb dX4_word_184 (lv_at hl 1 rfl) ?_
                    obtain ⟨r124, hk125, h⟩ := dm_b1s h
                    refine mc_i (wr := []) (va_runV (As := [.int x103]) (rest := []) ⟨hx, hb, hml, hown, hts⟩ (c_X4_isClass l dC dI cyI cyJ cyC th tqA tqB tqC tqL tqW tqO H.size tthr tdd tn tla tlb tlc w38 w39 w40 w41 w42 w43 w44 tsome tlast tlet twd w45 x103 r124 hk125) (cwV 1 hts gX4_word_X4_isClass rfl rfl rfl (by decide +kernel) ⟨(Nat.le_of_ble_eq_true rfl), (Nat.le_of_ble_eq_true rfl)⟩) (mc_preV hK (hP.sub (ws' := [(th, .inr (4, [.int tthr, .int tdd, .int tn, .ref tqA, .ref tqB, .ref tqC, .long w38, .long w39, .long w40, .long w41, .long w42, .long w43, .long w44, .int tsome, .ref tqL, .int tlet, .ref tqW, .ref tqO])), (tqA, .inl (cyJ, 40, .inr (.inl tla))), (tqB, .inl (cyJ, 40, .inr (.inl tlb))), (tqC, .inl (cyJ, 40, .inr (.inl tlc))), (tqL, .inl (cyJ, 7, .inr (.inl tlast))), (tqW, .inl (cyC, 40, .inl twd)), (tqO, .inl (cyI, 5, .inl w45))]) [0, 1, 2, 3, 4, 5, 6] rfl) (hD.sub (ws' := [(th, .inr (4, [.int tthr, .int tdd, .int tn, .ref tqA, .ref tqB, .ref tqC, .long w38, .long w39, .long w40, .long w41, .long w42, .long w43, .long w44, .int tsome, .ref tqL, .int tlet, .ref tqW, .ref tqO])), (tqA, .inl (cyJ, 40, .inr (.inl tla))), (tqB, .inl (cyJ, 40, .inr (.inl tlb))), (tqC, .inl (cyJ, 40, .inr (.inl tlc))), (tqL, .inl (cyJ, 7, .inr (.inl tlast))), (tqW, .inl (cyC, 40, .inl twd)), (tqO, .inl (cyI, 5, .inl w45))]) [0, 1, 2, 3, 4, 5, 6] (by decide) rfl) hnw rfl rfl) rfl rfl hl.1 rfl (lv_room (Nat.le_of_ble_eq_true rfl)) dX4_word_186 ⟨Nat.zero_le _, Nat.zero_le _⟩) hP hD hS hA [0, 1, 2, 3, 4, 5, 6] [] rfl rfl rfl (by decide) (fun H locs hP hD hS => ?_)
                    have hP : va_P (dC, dI) vwCl [(th, .inr (4, [.int tthr, .int tdd, .int tn, .ref tqA, .ref tqB, .ref tqC, .long w38, .long w39, .long w40, .long w41, .long w42, .long w43, .long w44, .int tsome, .ref tqL, .int tlet, .ref tqW, .ref tqO])), (tqA, .inl (cyJ, 40, .inr (.inl tla))), (tqB, .inl (cyJ, 40, .inr (.inl tlb))), (tqC, .inl (cyJ, 40, .inr (.inl tlc))), (tqL, .inl (cyJ, 7, .inr (.inl tlast))), (tqW, .inl (cyC, 40, .inl twd)), (tqO, .inl (cyI, 5, .inl w45))] H := hP
                    have hD : va_D A [(th, .inr (4, [.int tthr, .int tdd, .int tn, .ref tqA, .ref tqB, .ref tqC, .long w38, .long w39, .long w40, .long w41, .long w42, .long w43, .long w44, .int tsome, .ref tqL, .int tlet, .ref tqW, .ref tqO])), (tqA, .inl (cyJ, 40, .inr (.inl tla))), (tqB, .inl (cyJ, 40, .inr (.inl tlb))), (tqC, .inl (cyJ, 40, .inr (.inl tlc))), (tqL, .inl (cyJ, 7, .inr (.inl tlast))), (tqW, .inl (cyC, 40, .inl twd)), (tqO, .inl (cyI, 5, .inl w45))] := hD
                    refine lv_if_ne (tgt := 196) hx hb dX4_word_189 (by decide) (fun hc126 => ?_) (fun hc126 => ?_)
                    · have h := dm_f hc126 h
                      refine lv_iload hx hb dX4_word_196 (lv_at hl 3 rfl) ?_
                      refine lv_bipush (v := 97) hx hb dX4_word_198 (by decide) ?_
                      refine lv_icmp_lt (tgt := 212) hx hb dX4_word_200 (by decide) (fun hc127 => ?_) (fun hc127 => ?_)
                      · have h := dm_t hc127 h
                        refine lv_iload hx hb dX4_word_212 (lv_at hl 1 rfl) ?_
                        refine lv_istore_n (lv' := [(2, .int x103), (3, .int (0 : Int32)), (6, .int x103), (5, .int x34), (4, .int v2), (1, .int v5), (0, .ref th)]) hx hb dX4_word_214 rfl hl (by decide) rfl (fun ls hl => ?_)
                        obtain ⟨x128, ex128⟩ : ∃ y : Int32, y = (v2 + (1 : Int32)) := ⟨_, rfl⟩
                        have h := dm_lu ex128 h
                        refine lv_iinc (v := x128) (lv' := [(4, .int x128), (2, .int x103), (3, .int (0 : Int32)), (6, .int x103), (5, .int x34), (1, .int v5), (0, .ref th)]) hx hb dX4_word_215 hl (k := 4) rfl (by rw [ex128]; rfl) (by decide) rfl (fun ls hl => ?_)
                        refine lv_goto (tgt := 16) hx hb dX4_word_218 (by decide) ?_
                        exact ih16 x128 (0 : Int32) x103 v5 w38 w39 w40 w41 w42 w43 w44 w45 H _ ls h (hP.sub [0, 1, 2, 3, 4, 5, 6] rfl) (hD.sub [0, 1, 2, 3, 4, 5, 6] (by decide) rfl) hS (lv_sub hl [0, 2, 1, 5, 6] rfl)
                      · have h := dm_f hc127 h
                        refine lv_aload_n hx hb dX4_word_203 rfl (lv_at hl 6 rfl) ?_
                        refine lv_iload hx hb dX4_word_204 (lv_at hl 1 rfl) ?_
                        obtain ⟨r129, w130, w131, w132, w133, w134, w135, w136, hk137, h⟩ := dm_b8s h
                        refine mc_i (wr := []) (va_runV (As := [.int x103]) (rest := []) ⟨hx, hb, hml, hown, hts⟩ (c_X4_inverseOf l dC dI cyI cyJ cyC th tqA tqB tqC tqL tqW tqO H.size tthr tdd tn tla tlb tlc w38 w39 w40 w41 w42 w43 w44 tsome tlast tlet twd w45 x103 r129 w130 w131 w132 w133 w134 w135 w136 hk137) (cwV 1 hts gX4_word_X4_inverseOf rfl rfl rfl (by decide +kernel) ⟨(Nat.le_of_ble_eq_true rfl), (Nat.le_of_ble_eq_true rfl)⟩) (mc_preV hK (hP.sub (ws' := [(th, .inr (4, [.int tthr, .int tdd, .int tn, .ref tqA, .ref tqB, .ref tqC, .long w38, .long w39, .long w40, .long w41, .long w42, .long w43, .long w44, .int tsome, .ref tqL, .int tlet, .ref tqW, .ref tqO])), (tqA, .inl (cyJ, 40, .inr (.inl tla))), (tqB, .inl (cyJ, 40, .inr (.inl tlb))), (tqC, .inl (cyJ, 40, .inr (.inl tlc))), (tqL, .inl (cyJ, 7, .inr (.inl tlast))), (tqW, .inl (cyC, 40, .inl twd)), (tqO, .inl (cyI, 5, .inl w45))]) [0, 1, 2, 3, 4, 5, 6] rfl) (hD.sub (ws' := [(th, .inr (4, [.int tthr, .int tdd, .int tn, .ref tqA, .ref tqB, .ref tqC, .long w38, .long w39, .long w40, .long w41, .long w42, .long w43, .long w44, .int tsome, .ref tqL, .int tlet, .ref tqW, .ref tqO])), (tqA, .inl (cyJ, 40, .inr (.inl tla))), (tqB, .inl (cyJ, 40, .inr (.inl tlb))), (tqC, .inl (cyJ, 40, .inr (.inl tlc))), (tqL, .inl (cyJ, 7, .inr (.inl tlast))), (tqW, .inl (cyC, 40, .inl twd)), (tqO, .inl (cyI, 5, .inl w45))]) [0, 1, 2, 3, 4, 5, 6] (by decide) rfl) hnw rfl rfl) rfl rfl hl.1 rfl (lv_room (Nat.le_of_ble_eq_true rfl)) dX4_word_206 ⟨Nat.zero_le _, Nat.zero_le _⟩) hP hD hS hA [0, 1, 2, 3, 4, 5, 6] [] rfl rfl rfl (by decide) (fun H locs hP hD hS => ?_)
                        have hP : va_P (dC, dI) vwCl [(th, .inr (4, [.int tthr, .int tdd, .int tn, .ref tqA, .ref tqB, .ref tqC, .long w130, .long w131, .long w132, .long w133, .long w134, .long w135, .long w136, .int tsome, .ref tqL, .int tlet, .ref tqW, .ref tqO])), (tqA, .inl (cyJ, 40, .inr (.inl tla))), (tqB, .inl (cyJ, 40, .inr (.inl tlb))), (tqC, .inl (cyJ, 40, .inr (.inl tlc))), (tqL, .inl (cyJ, 7, .inr (.inl tlast))), (tqW, .inl (cyC, 40, .inl twd)), (tqO, .inl (cyI, 5, .inl w45))] H := hP
                        have hD : va_D A [(th, .inr (4, [.int tthr, .int tdd, .int tn, .ref tqA, .ref tqB, .ref tqC, .long w130, .long w131, .long w132, .long w133, .long w134, .long w135, .long w136, .int tsome, .ref tqL, .int tlet, .ref tqW, .ref tqO])), (tqA, .inl (cyJ, 40, .inr (.inl tla))), (tqB, .inl (cyJ, 40, .inr (.inl tlb))), (tqC, .inl (cyJ, 40, .inr (.inl tlc))), (tqL, .inl (cyJ, 7, .inr (.inl tlast))), (tqW, .inl (cyC, 40, .inl twd)), (tqO, .inl (cyI, 5, .inl w45))] := hD
                        refine lv_goto (tgt := 214) hx hb dX4_word_209 (by decide) ?_
                        refine lv_istore_n (lv' := [(2, .int r129), (3, .int (0 : Int32)), (6, .int x103), (5, .int x34), (4, .int v2), (1, .int v5), (0, .ref th)]) hx hb dX4_word_214 rfl hl (by decide) rfl (fun ls hl => ?_)
                        obtain ⟨x138, ex138⟩ : ∃ y : Int32, y = (v2 + (1 : Int32)) := ⟨_, rfl⟩
                        have h := dm_lu ex138 h
                        refine lv_iinc (v := x138) (lv' := [(4, .int x138), (2, .int r129), (3, .int (0 : Int32)), (6, .int x103), (5, .int x34), (1, .int v5), (0, .ref th)]) hx hb dX4_word_215 hl (k := 4) rfl (by rw [ex138]; rfl) (by decide) rfl (fun ls hl => ?_)
                        refine lv_goto (tgt := 16) hx hb dX4_word_218 (by decide) ?_
                        exact ih16 x138 (0 : Int32) r129 v5 w130 w131 w132 w133 w134 w135 w136 w45 H _ ls h (hP.sub [0, 1, 2, 3, 4, 5, 6] rfl) (hD.sub [0, 1, 2, 3, 4, 5, 6] (by decide) rfl) hS (lv_sub hl [0, 2, 1, 5, 6] rfl)
                    · have h := dm_t hc126 h
                      refine lv_iconst (v := 0) hx hb dX4_word_192 (by decide) ?_
                      refine lv_goto (tgt := 214) hx hb dX4_word_193 (by decide) ?_
                      refine lv_istore_n (lv' := [(2, .int (0 : Int32)), (3, .int (0 : Int32)), (6, .int x103), (5, .int x34), (4, .int v2), (1, .int v5), (0, .ref th)]) hx hb dX4_word_214 rfl hl (by decide) rfl (fun ls hl => ?_)
                      obtain ⟨x139, ex139⟩ : ∃ y : Int32, y = (v2 + (1 : Int32)) := ⟨_, rfl⟩
                      have h := dm_lu ex139 h
                      refine lv_iinc (v := x139) (lv' := [(4, .int x139), (2, .int (0 : Int32)), (3, .int (0 : Int32)), (6, .int x103), (5, .int x34), (1, .int v5), (0, .ref th)]) hx hb dX4_word_215 hl (k := 4) rfl (by rw [ex139]; rfl) (by decide) rfl (fun ls hl => ?_)
                      refine lv_goto (tgt := 16) hx hb dX4_word_218 (by decide) ?_
                      exact ih16 x139 (0 : Int32) (0 : Int32) v5 w38 w39 w40 w41 w42 w43 w44 w45 H _ ls h (hP.sub [0, 1, 2, 3, 4, 5, 6] rfl) (hD.sub [0, 1, 2, 3, 4, 5, 6] (by decide) rfl) hS (lv_sub hl [0, 2, 1, 5, 6] rfl)
                  · have h := dm_t hc123 h
                    refine lv_iconst (v := 1) hx hb dX4_word_177 (by decide) ?_
                    refine lv_goto (tgt := 182) hx hb dX4_word_178 (by decide) ?_
                    refine lv_istore_n (lv' := [(3, .int (1 : Int32)), (6, .int x103), (2, .int (-1 : Int32)), (5, .int x34), (4, .int v2), (1, .int v5), (0, .ref th)]) hx hb dX4_word_182 rfl hl (by decide) rfl (fun ls hl => ?_)
                    refine lv_aload_n hx hb dX4_word_183 rfl (lv_at hl 6 rfl) ?_
                    refine lv_iload hx hb dX4_word_184 (lv_at hl 1 rfl) ?_
                    obtain ⟨r140, hk141, h⟩ := dm_b1s h
                    refine mc_i (wr := []) (va_runV (As := [.int x103]) (rest := []) ⟨hx, hb, hml, hown, hts⟩ (c_X4_isClass l dC dI cyI cyJ cyC th tqA tqB tqC tqL tqW tqO H.size tthr tdd tn tla tlb tlc w38 w39 w40 w41 w42 w43 w44 tsome tlast tlet twd w45 x103 r140 hk141) (cwV 1 hts gX4_word_X4_isClass rfl rfl rfl (by decide +kernel) ⟨(Nat.le_of_ble_eq_true rfl), (Nat.le_of_ble_eq_true rfl)⟩) (mc_preV hK (hP.sub (ws' := [(th, .inr (4, [.int tthr, .int tdd, .int tn, .ref tqA, .ref tqB, .ref tqC, .long w38, .long w39, .long w40, .long w41, .long w42, .long w43, .long w44, .int tsome, .ref tqL, .int tlet, .ref tqW, .ref tqO])), (tqA, .inl (cyJ, 40, .inr (.inl tla))), (tqB, .inl (cyJ, 40, .inr (.inl tlb))), (tqC, .inl (cyJ, 40, .inr (.inl tlc))), (tqL, .inl (cyJ, 7, .inr (.inl tlast))), (tqW, .inl (cyC, 40, .inl twd)), (tqO, .inl (cyI, 5, .inl w45))]) [0, 1, 2, 3, 4, 5, 6] rfl) (hD.sub (ws' := [(th, .inr (4, [.int tthr, .int tdd, .int tn, .ref tqA, .ref tqB, .ref tqC, .long w38, .long w39, .long w40, .long w41, .long w42, .long w43, .long w44, .int tsome, .ref tqL, .int tlet, .ref tqW, .ref tqO])), (tqA, .inl (cyJ, 40, .inr (.inl tla))), (tqB, .inl (cyJ, 40, .inr (.inl tlb))), (tqC, .inl (cyJ, 40, .inr (.inl tlc))), (tqL, .inl (cyJ, 7, .inr (.inl tlast))), (tqW, .inl (cyC, 40, .inl twd)), (tqO, .inl (cyI, 5, .inl w45))]) [0, 1, 2, 3, 4, 5, 6] (by decide) rfl) hnw rfl rfl) rfl rfl hl.1 rfl (lv_room (Nat.le_of_ble_eq_true rfl)) dX4_word_186 ⟨Nat.zero_le _, Nat.zero_le _⟩) hP hD hS hA [0, 1, 2, 3, 4, 5, 6] [] rfl rfl rfl (by decide) (fun H locs hP hD hS => ?_)
                    have hP : va_P (dC, dI) vwCl [(th, .inr (4, [.int tthr, .int tdd, .int tn, .ref tqA, .ref tqB, .ref tqC, .long w38, .long w39, .long w40, .long w41, .long w42, .long w43, .long w44, .int tsome, .ref tqL, .int tlet, .ref tqW, .ref tqO])), (tqA, .inl (cyJ, 40, .inr (.inl tla))), (tqB, .inl (cyJ, 40, .inr (.inl tlb))), (tqC, .inl (cyJ, 40, .inr (.inl tlc))), (tqL, .inl (cyJ, 7, .inr (.inl tlast))), (tqW, .inl (cyC, 40, .inl twd)), (tqO, .inl (cyI, 5, .inl w45))] H := hP
                    have hD : va_D A [(th, .inr (4, [.int tthr, .int tdd, .int tn, .ref tqA, .ref tqB, .ref tqC, .long w38, .long w39, .long w40, .long w41, .long w42, .long w43, .long w44, .int tsome, .ref tqL, .int tlet, .ref tqW, .ref tqO])), (tqA, .inl (cyJ, 40, .inr (.inl tla))), (tqB, .inl (cyJ, 40, .inr (.inl tlb))), (tqC, .inl (cyJ, 40, .inr (.inl tlc))), (tqL, .inl (cyJ, 7, .inr (.inl tlast))), (tqW, .inl (cyC, 40, .inl twd)), (tqO, .inl (cyI, 5, .inl w45))] := hD
                    refine lv_if_ne (tgt := 196) hx hb dX4_word_189 (by decide) (fun hc142 => ?_) (fun hc142 => ?_)
                    · have h := dm_f hc142 h
                      refine lv_iload hx hb dX4_word_196 (lv_at hl 3 rfl) ?_
                      refine lv_bipush (v := 97) hx hb dX4_word_198 (by decide) ?_
                      refine lv_icmp_lt (tgt := 212) hx hb dX4_word_200 (by decide) (fun hc143 => ?_) (fun hc143 => ?_)
                      · have h := dm_t hc143 h
                        refine lv_iload hx hb dX4_word_212 (lv_at hl 1 rfl) ?_
                        refine lv_istore_n (lv' := [(2, .int x103), (3, .int (1 : Int32)), (6, .int x103), (5, .int x34), (4, .int v2), (1, .int v5), (0, .ref th)]) hx hb dX4_word_214 rfl hl (by decide) rfl (fun ls hl => ?_)
                        obtain ⟨x144, ex144⟩ : ∃ y : Int32, y = (v2 + (1 : Int32)) := ⟨_, rfl⟩
                        have h := dm_lu ex144 h
                        refine lv_iinc (v := x144) (lv' := [(4, .int x144), (2, .int x103), (3, .int (1 : Int32)), (6, .int x103), (5, .int x34), (1, .int v5), (0, .ref th)]) hx hb dX4_word_215 hl (k := 4) rfl (by rw [ex144]; rfl) (by decide) rfl (fun ls hl => ?_)
                        refine lv_goto (tgt := 16) hx hb dX4_word_218 (by decide) ?_
                        exact ih16 x144 (1 : Int32) x103 v5 w38 w39 w40 w41 w42 w43 w44 w45 H _ ls h (hP.sub [0, 1, 2, 3, 4, 5, 6] rfl) (hD.sub [0, 1, 2, 3, 4, 5, 6] (by decide) rfl) hS (lv_sub hl [0, 2, 1, 5, 6] rfl)
                      · have h := dm_f hc143 h
                        refine lv_aload_n hx hb dX4_word_203 rfl (lv_at hl 6 rfl) ?_
                        refine lv_iload hx hb dX4_word_204 (lv_at hl 1 rfl) ?_
                        obtain ⟨r145, w146, w147, w148, w149, w150, w151, w152, hk153, h⟩ := dm_b8s h
                        refine mc_i (wr := []) (va_runV (As := [.int x103]) (rest := []) ⟨hx, hb, hml, hown, hts⟩ (c_X4_inverseOf l dC dI cyI cyJ cyC th tqA tqB tqC tqL tqW tqO H.size tthr tdd tn tla tlb tlc w38 w39 w40 w41 w42 w43 w44 tsome tlast tlet twd w45 x103 r145 w146 w147 w148 w149 w150 w151 w152 hk153) (cwV 1 hts gX4_word_X4_inverseOf rfl rfl rfl (by decide +kernel) ⟨(Nat.le_of_ble_eq_true rfl), (Nat.le_of_ble_eq_true rfl)⟩) (mc_preV hK (hP.sub (ws' := [(th, .inr (4, [.int tthr, .int tdd, .int tn, .ref tqA, .ref tqB, .ref tqC, .long w38, .long w39, .long w40, .long w41, .long w42, .long w43, .long w44, .int tsome, .ref tqL, .int tlet, .ref tqW, .ref tqO])), (tqA, .inl (cyJ, 40, .inr (.inl tla))), (tqB, .inl (cyJ, 40, .inr (.inl tlb))), (tqC, .inl (cyJ, 40, .inr (.inl tlc))), (tqL, .inl (cyJ, 7, .inr (.inl tlast))), (tqW, .inl (cyC, 40, .inl twd)), (tqO, .inl (cyI, 5, .inl w45))]) [0, 1, 2, 3, 4, 5, 6] rfl) (hD.sub (ws' := [(th, .inr (4, [.int tthr, .int tdd, .int tn, .ref tqA, .ref tqB, .ref tqC, .long w38, .long w39, .long w40, .long w41, .long w42, .long w43, .long w44, .int tsome, .ref tqL, .int tlet, .ref tqW, .ref tqO])), (tqA, .inl (cyJ, 40, .inr (.inl tla))), (tqB, .inl (cyJ, 40, .inr (.inl tlb))), (tqC, .inl (cyJ, 40, .inr (.inl tlc))), (tqL, .inl (cyJ, 7, .inr (.inl tlast))), (tqW, .inl (cyC, 40, .inl twd)), (tqO, .inl (cyI, 5, .inl w45))]) [0, 1, 2, 3, 4, 5, 6] (by decide) rfl) hnw rfl rfl) rfl rfl hl.1 rfl (lv_room (Nat.le_of_ble_eq_true rfl)) dX4_word_206 ⟨Nat.zero_le _, Nat.zero_le _⟩) hP hD hS hA [0, 1, 2, 3, 4, 5, 6] [] rfl rfl rfl (by decide) (fun H locs hP hD hS => ?_)
                        have hP : va_P (dC, dI) vwCl [(th, .inr (4, [.int tthr, .int tdd, .int tn, .ref tqA, .ref tqB, .ref tqC, .long w146, .long w147, .long w148, .long w149, .long w150, .long w151, .long w152, .int tsome, .ref tqL, .int tlet, .ref tqW, .ref tqO])), (tqA, .inl (cyJ, 40, .inr (.inl tla))), (tqB, .inl (cyJ, 40, .inr (.inl tlb))), (tqC, .inl (cyJ, 40, .inr (.inl tlc))), (tqL, .inl (cyJ, 7, .inr (.inl tlast))), (tqW, .inl (cyC, 40, .inl twd)), (tqO, .inl (cyI, 5, .inl w45))] H := hP
                        have hD : va_D A [(th, .inr (4, [.int tthr, .int tdd, .int tn, .ref tqA, .ref tqB, .ref tqC, .long w146, .long w147, .long w148, .long w149, .long w150, .long w151, .long w152, .int tsome, .ref tqL, .int tlet, .ref tqW, .ref tqO])), (tqA, .inl (cyJ, 40, .inr (.inl tla))), (tqB, .inl (cyJ, 40, .inr (.inl tlb))), (tqC, .inl (cyJ, 40, .inr (.inl tlc))), (tqL, .inl (cyJ, 7, .inr (.inl tlast))), (tqW, .inl (cyC, 40, .inl twd)), (tqO, .inl (cyI, 5, .inl w45))] := hD
                        refine lv_goto (tgt := 214) hx hb dX4_word_209 (by decide) ?_
                        refine lv_istore_n (lv' := [(2, .int r145), (3, .int (1 : Int32)), (6, .int x103), (5, .int x34), (4, .int v2), (1, .int v5), (0, .ref th)]) hx hb dX4_word_214 rfl hl (by decide) rfl (fun ls hl => ?_)
                        obtain ⟨x154, ex154⟩ : ∃ y : Int32, y = (v2 + (1 : Int32)) := ⟨_, rfl⟩
                        have h := dm_lu ex154 h
                        refine lv_iinc (v := x154) (lv' := [(4, .int x154), (2, .int r145), (3, .int (1 : Int32)), (6, .int x103), (5, .int x34), (1, .int v5), (0, .ref th)]) hx hb dX4_word_215 hl (k := 4) rfl (by rw [ex154]; rfl) (by decide) rfl (fun ls hl => ?_)
                        refine lv_goto (tgt := 16) hx hb dX4_word_218 (by decide) ?_
                        exact ih16 x154 (1 : Int32) r145 v5 w146 w147 w148 w149 w150 w151 w152 w45 H _ ls h (hP.sub [0, 1, 2, 3, 4, 5, 6] rfl) (hD.sub [0, 1, 2, 3, 4, 5, 6] (by decide) rfl) hS (lv_sub hl [0, 2, 1, 5, 6] rfl)
                    · have h := dm_t hc142 h
                      refine lv_iconst (v := 0) hx hb dX4_word_192 (by decide) ?_
                      refine lv_goto (tgt := 214) hx hb dX4_word_193 (by decide) ?_
                      refine lv_istore_n (lv' := [(2, .int (0 : Int32)), (3, .int (1 : Int32)), (6, .int x103), (5, .int x34), (4, .int v2), (1, .int v5), (0, .ref th)]) hx hb dX4_word_214 rfl hl (by decide) rfl (fun ls hl => ?_)
                      obtain ⟨x155, ex155⟩ : ∃ y : Int32, y = (v2 + (1 : Int32)) := ⟨_, rfl⟩
                      have h := dm_lu ex155 h
                      refine lv_iinc (v := x155) (lv' := [(4, .int x155), (2, .int (0 : Int32)), (3, .int (1 : Int32)), (6, .int x103), (5, .int x34), (1, .int v5), (0, .ref th)]) hx hb dX4_word_215 hl (k := 4) rfl (by rw [ex155]; rfl) (by decide) rfl (fun ls hl => ?_)
                      refine lv_goto (tgt := 16) hx hb dX4_word_218 (by decide) ?_
                      exact ih16 x155 (1 : Int32) (0 : Int32) v5 w38 w39 w40 w41 w42 w43 w44 w45 H _ ls h (hP.sub [0, 1, 2, 3, 4, 5, 6] rfl) (hD.sub [0, 1, 2, 3, 4, 5, 6] (by decide) rfl) hS (lv_sub hl [0, 2, 1, 5, 6] rfl)
            · have h := dm_t hc48 h
              refine lv_iload_n hx hb dX4_word_119 rfl (lv_at hl 4 rfl) ?_
              refine lv_if_ne (tgt := 129) hx hb dX4_word_120 (by decide) (fun hc156 => ?_) (fun hc156 => ?_)
              · have h := dm_f hc156 h
                refine lv_aload_n hx hb dX4_word_129 rfl (lv_at hl 5 rfl) ?_
                refine va_get (D := (dC, dI)) (ci := 4) (v := .ref tqO) (C := RX4) (T := TX4) (N := 18) hx hb hts hinX4 hown hK hP 0 rfl rfl 17 (by decide) (hts (.fieldLink RX4 30 "FormDeskModel" "open" "[I") (by decide +kernel)) (fun _ h9 => h9) rfl dX4_word_130 ?_
                refine lv_iload_n hx hb dX4_word_133 rfl (lv_at hl 4 rfl) ?_
                obtain ⟨hn157, h⟩ := dm_gs h
                refine va_iald hx hb hK hP 6 0 rfl rfl hn157 dX4_word_134 ?_
                refine lv_topi (fun x158 ex158 => ?_)
                have h := dm_lu ex158 h
                refine lv_istore_n (lv' := [(2, .int x158), (5, .int x34), (4, .int v2), (3, .int v3), (1, .int v5), (0, .ref th)]) hx hb dX4_word_135 rfl hl (by decide) rfl (fun ls hl => ?_)
                obtain ⟨x159, ex159⟩ : ∃ y : Int32, y = (v5 + (-1 : Int32)) := ⟨_, rfl⟩
                have h := dm_lu ex159 h
                refine lv_iinc (v := x159) (lv' := [(1, .int x159), (2, .int x158), (5, .int x34), (4, .int v2), (3, .int v3), (0, .ref th)]) hx hb dX4_word_136 hl (k := 4) rfl (by rw [ex159]; rfl) (by decide) rfl (fun ls hl => ?_)
                refine lv_goto (tgt := 215) hx hb dX4_word_139 (by decide) ?_
                obtain ⟨x160, ex160⟩ : ∃ y : Int32, y = (v2 + (1 : Int32)) := ⟨_, rfl⟩
                have h := dm_lu ex160 h
                refine lv_iinc (v := x160) (lv' := [(4, .int x160), (1, .int x159), (2, .int x158), (5, .int x34), (3, .int v3), (0, .ref th)]) hx hb dX4_word_215 hl (k := 3) rfl (by rw [ex160]; rfl) (by decide) rfl (fun ls hl => ?_)
                refine lv_goto (tgt := 16) hx hb dX4_word_218 (by decide) ?_
                exact ih16 x160 v3 x158 x159 w38 w39 w40 w41 w42 w43 w44 w45 H _ ls h (hP.sub [0, 1, 2, 3, 4, 5, 6] rfl) (hD.sub [0, 1, 2, 3, 4, 5, 6] (by decide) rfl) hS (lv_sub hl [0, 4, 2, 1, 5] rfl)
              · have h := dm_t hc156 h
                refine lv_aload_n hx hb dX4_word_123 rfl (lv_at hl 5 rfl) ?_
                refine lv_iconst (v := 1) hx hb dX4_word_124 (by decide) ?_
                obtain ⟨r161, w162, hk163, h⟩ := dm_b2s h
                refine mc_i (wr := []) (va_runV (As := [.int (1 : Int32)]) (rest := []) ⟨hx, hb, hml, hown, hts⟩ (c_X4_refuse l dC dI cyI cyJ cyC th tqA tqB tqC tqL tqW tqO H.size tthr tdd tn tla tlb tlc w38 w39 w40 w41 w42 w43 w44 tsome tlast tlet twd w45 (1 : Int32) r161 w162 hk163) (cwV 1 hts gX4_word_X4_refuse rfl rfl rfl (by decide +kernel) ⟨(Nat.le_of_ble_eq_true rfl), (Nat.le_of_ble_eq_true rfl)⟩) (mc_preV hK (hP.sub (ws' := [(th, .inr (4, [.int tthr, .int tdd, .int tn, .ref tqA, .ref tqB, .ref tqC, .long w38, .long w39, .long w40, .long w41, .long w42, .long w43, .long w44, .int tsome, .ref tqL, .int tlet, .ref tqW, .ref tqO])), (tqA, .inl (cyJ, 40, .inr (.inl tla))), (tqB, .inl (cyJ, 40, .inr (.inl tlb))), (tqC, .inl (cyJ, 40, .inr (.inl tlc))), (tqL, .inl (cyJ, 7, .inr (.inl tlast))), (tqW, .inl (cyC, 40, .inl twd)), (tqO, .inl (cyI, 5, .inl w45))]) [0, 1, 2, 3, 4, 5, 6] rfl) (hD.sub (ws' := [(th, .inr (4, [.int tthr, .int tdd, .int tn, .ref tqA, .ref tqB, .ref tqC, .long w38, .long w39, .long w40, .long w41, .long w42, .long w43, .long w44, .int tsome, .ref tqL, .int tlet, .ref tqW, .ref tqO])), (tqA, .inl (cyJ, 40, .inr (.inl tla))), (tqB, .inl (cyJ, 40, .inr (.inl tlb))), (tqC, .inl (cyJ, 40, .inr (.inl tlc))), (tqL, .inl (cyJ, 7, .inr (.inl tlast))), (tqW, .inl (cyC, 40, .inl twd)), (tqO, .inl (cyI, 5, .inl w45))]) [0, 1, 2, 3, 4, 5, 6] (by decide) rfl) hnw rfl rfl) rfl rfl hl.1 rfl (lv_room (Nat.le_of_ble_eq_true rfl)) dX4_word_125 ⟨Nat.zero_le _, Nat.zero_le _⟩) hP hD hS hA [0, 1, 2, 3, 4, 5, 6] [] rfl rfl rfl (by decide) (fun H locs hP hD hS => ?_)
                have hP : va_P (dC, dI) vwCl [(th, .inr (4, [.int w162, .int tdd, .int tn, .ref tqA, .ref tqB, .ref tqC, .long w38, .long w39, .long w40, .long w41, .long w42, .long w43, .long w44, .int tsome, .ref tqL, .int tlet, .ref tqW, .ref tqO])), (tqA, .inl (cyJ, 40, .inr (.inl tla))), (tqB, .inl (cyJ, 40, .inr (.inl tlb))), (tqC, .inl (cyJ, 40, .inr (.inl tlc))), (tqL, .inl (cyJ, 7, .inr (.inl tlast))), (tqW, .inl (cyC, 40, .inl twd)), (tqO, .inl (cyI, 5, .inl w45))] H := hP
                have hD : va_D A [(th, .inr (4, [.int w162, .int tdd, .int tn, .ref tqA, .ref tqB, .ref tqC, .long w38, .long w39, .long w40, .long w41, .long w42, .long w43, .long w44, .int tsome, .ref tqL, .int tlet, .ref tqW, .ref tqO])), (tqA, .inl (cyJ, 40, .inr (.inl tla))), (tqB, .inl (cyJ, 40, .inr (.inl tlb))), (tqC, .inl (cyJ, 40, .inr (.inl tlc))), (tqL, .inl (cyJ, 7, .inr (.inl tlast))), (tqW, .inl (cyC, 40, .inl twd)), (tqO, .inl (cyI, 5, .inl w45))] := hD
                obtain ⟨hE0, hE1, hE2, hE3, hE4, hE5, hE6, hE7, hE8, hE9⟩ := dm_i10 h
                subst hE0; subst hE1; subst hE2; subst hE3; subst hE4; subst hE5; subst hE6; subst hE7; subst hE8; subst hE9
                rw [hQQ]
                have hP9 := hP.sub (ws' := [(th, .inr (4, [.int w162, .int tdd, .int tn, .ref tqA, .ref tqB, .ref tqC, .long w38, .long w39, .long w40, .long w41, .long w42, .long w43, .long w44, .int tsome, .ref tqL, .int tlet, .ref tqW, .ref tqO])), (tqA, .inl (cyJ, 40, .inr (.inl tla))), (tqB, .inl (cyJ, 40, .inr (.inl tlb))), (tqC, .inl (cyJ, 40, .inr (.inl tlc))), (tqL, .inl (cyJ, 7, .inr (.inl tlast))), (tqW, .inl (cyC, 40, .inl twd)), (tqO, .inl (cyI, 5, .inl w45))]) [0, 1, 2, 3, 4, 5, 6] rfl
                have hD9 := hD.sub (ws' := [(th, .inr (4, [.int w162, .int tdd, .int tn, .ref tqA, .ref tqB, .ref tqC, .long w38, .long w39, .long w40, .long w41, .long w42, .long w43, .long w44, .int tsome, .ref tqL, .int tlet, .ref tqW, .ref tqO])), (tqA, .inl (cyJ, 40, .inr (.inl tla))), (tqB, .inl (cyJ, 40, .inr (.inl tlb))), (tqC, .inl (cyJ, 40, .inr (.inl tlc))), (tqL, .inl (cyJ, 7, .inr (.inl tlast))), (tqW, .inl (cyC, 40, .inl twd)), (tqO, .inl (cyI, 5, .inl w45))]) [0, 1, 2, 3, 4, 5, 6] (by decide) rfl
                exact W.iret (v := r161) hx hb hr (fun t ht hW => ⟨⟨r161, (), rfl, rfl, by rw [ht]; exact hP9, hD9⟩, hS.F ht⟩) hS.2.2 dX4_word_128
          · have h := dm_t hc47 h
            refine lv_iload_n hx hb dX4_word_88 rfl (lv_at hl 4 rfl) ?_
            refine lv_iconst (v := 4) hx hb dX4_word_89 (by decide) ?_
            refine lv_icmp_ne (tgt := 99) hx hb dX4_word_90 (by decide) (fun hc164 => ?_) (fun hc164 => ?_)
            · have h := dm_f hc164 h
              obtain ⟨x165, ex165⟩ : ∃ y : Int32, y = (v5 + (1 : Int32)) := ⟨_, rfl⟩
              have h := dm_lu ex165 h
              refine lv_iinc (v := x165) (lv' := [(1, .int x165), (2, .int (-1 : Int32)), (5, .int x34), (4, .int v2), (3, .int v3), (0, .ref th)]) hx hb dX4_word_99 hl (k := 4) rfl (by rw [ex165]; rfl) (by decide) rfl (fun ls hl => ?_)
              refine lv_aload_n hx hb dX4_word_102 rfl (lv_at hl 5 rfl) ?_
              refine va_get (D := (dC, dI)) (ci := 4) (v := .ref tqO) (C := RX4) (T := TX4) (N := 18) hx hb hts hinX4 hown hK hP 0 rfl rfl 17 (by decide) (hts (.fieldLink RX4 30 "FormDeskModel" "open" "[I") (by decide +kernel)) (fun _ h9 => h9) rfl dX4_word_103 ?_
              refine lv_iload_n hx hb dX4_word_106 rfl (lv_at hl 0 rfl) ?_
              refine lv_iconst (v := 0) hx hb dX4_word_107 (by decide) ?_
              obtain ⟨hn166, h⟩ := dm_gs h
              refine va_iast hx hb hK hP hD hS 6 0 rfl rfl hn166 dX4_word_108 (fun H locs hP hD hS => ?_)
              have hP : va_P (dC, dI) vwCl [(th, .inr (4, [.int tthr, .int tdd, .int tn, .ref tqA, .ref tqB, .ref tqC, .long w38, .long w39, .long w40, .long w41, .long w42, .long w43, .long w44, .int tsome, .ref tqL, .int tlet, .ref tqW, .ref tqO])), (tqA, .inl (cyJ, 40, .inr (.inl tla))), (tqB, .inl (cyJ, 40, .inr (.inl tlb))), (tqC, .inl (cyJ, 40, .inr (.inl tlc))), (tqL, .inl (cyJ, 7, .inr (.inl tlast))), (tqW, .inl (cyC, 40, .inl twd)), (tqO, .inl (cyI, 5, .inl (upd w45 (x165).toNatClampNeg (0 : Int32))))] H := hP
              have hD : va_D A [(th, .inr (4, [.int tthr, .int tdd, .int tn, .ref tqA, .ref tqB, .ref tqC, .long w38, .long w39, .long w40, .long w41, .long w42, .long w43, .long w44, .int tsome, .ref tqL, .int tlet, .ref tqW, .ref tqO])), (tqA, .inl (cyJ, 40, .inr (.inl tla))), (tqB, .inl (cyJ, 40, .inr (.inl tlb))), (tqC, .inl (cyJ, 40, .inr (.inl tlc))), (tqL, .inl (cyJ, 7, .inr (.inl tlast))), (tqW, .inl (cyC, 40, .inl twd)), (tqO, .inl (cyI, 5, .inl (upd w45 (x165).toNatClampNeg (0 : Int32))))] := hD
              refine lv_goto (tgt := 215) hx hb dX4_word_109 (by decide) ?_
              obtain ⟨x167, ex167⟩ : ∃ y : Int32, y = (v2 + (1 : Int32)) := ⟨_, rfl⟩
              have h := dm_lu ex167 h
              refine lv_iinc (v := x167) (lv' := [(4, .int x167), (1, .int x165), (2, .int (-1 : Int32)), (5, .int x34), (3, .int v3), (0, .ref th)]) hx hb dX4_word_215 hl (k := 3) rfl (by rw [ex167]; rfl) (by decide) rfl (fun ls hl => ?_)
              refine lv_goto (tgt := 16) hx hb dX4_word_218 (by decide) ?_
              exact ih16 x167 v3 (-1 : Int32) x165 w38 w39 w40 w41 w42 w43 w44 (upd w45 (x165).toNatClampNeg (0 : Int32)) H _ ls h (hP.sub [0, 1, 2, 3, 4, 5, 6] rfl) (hD.sub [0, 1, 2, 3, 4, 5, 6] (by decide) rfl) hS (lv_sub hl [0, 4, 2, 1, 5] rfl)
            · have h := dm_t hc164 h
              refine lv_aload_n hx hb dX4_word_93 rfl (lv_at hl 5 rfl) ?_
              refine lv_iconst (v := 1) hx hb dX4_word_94 (by decide) ?_
              obtain ⟨r168, w169, hk170, h⟩ := dm_b2s h
              refine mc_i (wr := []) (va_runV (As := [.int (1 : Int32)]) (rest := []) ⟨hx, hb, hml, hown, hts⟩ (c_X4_refuse l dC dI cyI cyJ cyC th tqA tqB tqC tqL tqW tqO H.size tthr tdd tn tla tlb tlc w38 w39 w40 w41 w42 w43 w44 tsome tlast tlet twd w45 (1 : Int32) r168 w169 hk170) (cwV 1 hts gX4_word_X4_refuse rfl rfl rfl (by decide +kernel) ⟨(Nat.le_of_ble_eq_true rfl), (Nat.le_of_ble_eq_true rfl)⟩) (mc_preV hK (hP.sub (ws' := [(th, .inr (4, [.int tthr, .int tdd, .int tn, .ref tqA, .ref tqB, .ref tqC, .long w38, .long w39, .long w40, .long w41, .long w42, .long w43, .long w44, .int tsome, .ref tqL, .int tlet, .ref tqW, .ref tqO])), (tqA, .inl (cyJ, 40, .inr (.inl tla))), (tqB, .inl (cyJ, 40, .inr (.inl tlb))), (tqC, .inl (cyJ, 40, .inr (.inl tlc))), (tqL, .inl (cyJ, 7, .inr (.inl tlast))), (tqW, .inl (cyC, 40, .inl twd)), (tqO, .inl (cyI, 5, .inl w45))]) [0, 1, 2, 3, 4, 5, 6] rfl) (hD.sub (ws' := [(th, .inr (4, [.int tthr, .int tdd, .int tn, .ref tqA, .ref tqB, .ref tqC, .long w38, .long w39, .long w40, .long w41, .long w42, .long w43, .long w44, .int tsome, .ref tqL, .int tlet, .ref tqW, .ref tqO])), (tqA, .inl (cyJ, 40, .inr (.inl tla))), (tqB, .inl (cyJ, 40, .inr (.inl tlb))), (tqC, .inl (cyJ, 40, .inr (.inl tlc))), (tqL, .inl (cyJ, 7, .inr (.inl tlast))), (tqW, .inl (cyC, 40, .inl twd)), (tqO, .inl (cyI, 5, .inl w45))]) [0, 1, 2, 3, 4, 5, 6] (by decide) rfl) hnw rfl rfl) rfl rfl hl.1 rfl (lv_room (Nat.le_of_ble_eq_true rfl)) dX4_word_95 ⟨Nat.zero_le _, Nat.zero_le _⟩) hP hD hS hA [0, 1, 2, 3, 4, 5, 6] [] rfl rfl rfl (by decide) (fun H locs hP hD hS => ?_)
              have hP : va_P (dC, dI) vwCl [(th, .inr (4, [.int w169, .int tdd, .int tn, .ref tqA, .ref tqB, .ref tqC, .long w38, .long w39, .long w40, .long w41, .long w42, .long w43, .long w44, .int tsome, .ref tqL, .int tlet, .ref tqW, .ref tqO])), (tqA, .inl (cyJ, 40, .inr (.inl tla))), (tqB, .inl (cyJ, 40, .inr (.inl tlb))), (tqC, .inl (cyJ, 40, .inr (.inl tlc))), (tqL, .inl (cyJ, 7, .inr (.inl tlast))), (tqW, .inl (cyC, 40, .inl twd)), (tqO, .inl (cyI, 5, .inl w45))] H := hP
              have hD : va_D A [(th, .inr (4, [.int w169, .int tdd, .int tn, .ref tqA, .ref tqB, .ref tqC, .long w38, .long w39, .long w40, .long w41, .long w42, .long w43, .long w44, .int tsome, .ref tqL, .int tlet, .ref tqW, .ref tqO])), (tqA, .inl (cyJ, 40, .inr (.inl tla))), (tqB, .inl (cyJ, 40, .inr (.inl tlb))), (tqC, .inl (cyJ, 40, .inr (.inl tlc))), (tqL, .inl (cyJ, 7, .inr (.inl tlast))), (tqW, .inl (cyC, 40, .inl twd)), (tqO, .inl (cyI, 5, .inl w45))] := hD
              obtain ⟨hE0, hE1, hE2, hE3, hE4, hE5, hE6, hE7, hE8, hE9⟩ := dm_i10 h
              subst hE0; subst hE1; subst hE2; subst hE3; subst hE4; subst hE5; subst hE6; subst hE7; subst hE8; subst hE9
              rw [hQQ]
              have hP9 := hP.sub (ws' := [(th, .inr (4, [.int w169, .int tdd, .int tn, .ref tqA, .ref tqB, .ref tqC, .long w38, .long w39, .long w40, .long w41, .long w42, .long w43, .long w44, .int tsome, .ref tqL, .int tlet, .ref tqW, .ref tqO])), (tqA, .inl (cyJ, 40, .inr (.inl tla))), (tqB, .inl (cyJ, 40, .inr (.inl tlb))), (tqC, .inl (cyJ, 40, .inr (.inl tlc))), (tqL, .inl (cyJ, 7, .inr (.inl tlast))), (tqW, .inl (cyC, 40, .inl twd)), (tqO, .inl (cyI, 5, .inl w45))]) [0, 1, 2, 3, 4, 5, 6] rfl
              have hD9 := hD.sub (ws' := [(th, .inr (4, [.int w169, .int tdd, .int tn, .ref tqA, .ref tqB, .ref tqC, .long w38, .long w39, .long w40, .long w41, .long w42, .long w43, .long w44, .int tsome, .ref tqL, .int tlet, .ref tqW, .ref tqO])), (tqA, .inl (cyJ, 40, .inr (.inl tla))), (tqB, .inl (cyJ, 40, .inr (.inl tlb))), (tqC, .inl (cyJ, 40, .inr (.inl tlc))), (tqL, .inl (cyJ, 7, .inr (.inl tlast))), (tqW, .inl (cyC, 40, .inl twd)), (tqO, .inl (cyI, 5, .inl w45))]) [0, 1, 2, 3, 4, 5, 6] (by decide) rfl
              exact W.iret (v := r168) hx hb hr (fun t ht hW => ⟨⟨r168, (), rfl, rfl, by rw [ht]; exact hP9, hD9⟩, hS.F ht⟩) hS.2.2 dX4_word_98
        · have h := dm_f hc37 h
          refine lv_iload_n hx hb dX4_word_42 rfl (lv_at hl 3 rfl) ?_
          refine lv_iconst (v := -1) hx hb dX4_word_43 (by decide) ?_
          refine lv_icmp_ne (tgt := 53) hx hb dX4_word_44 (by decide) (fun hc171 => ?_) (fun hc171 => ?_)
          · have h := dm_f hc171 h
            refine lv_aload_n hx hb dX4_word_53 rfl (lv_at hl 5 rfl) ?_
            refine lv_iload_n hx hb dX4_word_54 rfl (lv_at hl 4 rfl) ?_
            refine lv_aload_n hx hb dX4_word_55 rfl (lv_at hl 5 rfl) ?_
            refine lv_iload_n hx hb dX4_word_56 rfl (lv_at hl 3 rfl) ?_
            refine lv_iload hx hb dX4_word_57 (lv_at hl 0 rfl) ?_
            refine lv_bipush (v := 48) hx hb dX4_word_59 (by decide) ?_
            refine lv_isub hx hb dX4_word_61 ?_
            obtain ⟨r172, w173, w174, w175, w176, w177, w178, w179, hk180, h⟩ := dm_b8s h
            refine mc_i (wr := []) (va_runV (As := [.int v4, .int (x34 - (48 : Int32))]) (rest := [.int v5, .ref th]) ⟨hx, hb, hml, hown, hts⟩ (c_X4_raised l dC dI cyI cyJ cyC th tqA tqB tqC tqL tqW tqO H.size tthr tdd tn tla tlb tlc v6 v7 v8 v9 v10 v11 v12 tsome tlast tlet twd v13 v4 (x34 - (48 : Int32)) r172 w173 w174 w175 w176 w177 w178 w179 hk180) (cwV 2 hts gX4_word_X4_raised rfl rfl rfl (by decide +kernel) ⟨(Nat.le_of_ble_eq_true rfl), (Nat.le_of_ble_eq_true rfl)⟩) (mc_preV hK (hP.sub (ws' := [(th, .inr (4, [.int tthr, .int tdd, .int tn, .ref tqA, .ref tqB, .ref tqC, .long v6, .long v7, .long v8, .long v9, .long v10, .long v11, .long v12, .int tsome, .ref tqL, .int tlet, .ref tqW, .ref tqO])), (tqA, .inl (cyJ, 40, .inr (.inl tla))), (tqB, .inl (cyJ, 40, .inr (.inl tlb))), (tqC, .inl (cyJ, 40, .inr (.inl tlc))), (tqL, .inl (cyJ, 7, .inr (.inl tlast))), (tqW, .inl (cyC, 40, .inl twd)), (tqO, .inl (cyI, 5, .inl v13))]) [0, 1, 2, 3, 4, 5, 6] rfl) (hD.sub (ws' := [(th, .inr (4, [.int tthr, .int tdd, .int tn, .ref tqA, .ref tqB, .ref tqC, .long v6, .long v7, .long v8, .long v9, .long v10, .long v11, .long v12, .int tsome, .ref tqL, .int tlet, .ref tqW, .ref tqO])), (tqA, .inl (cyJ, 40, .inr (.inl tla))), (tqB, .inl (cyJ, 40, .inr (.inl tlb))), (tqC, .inl (cyJ, 40, .inr (.inl tlc))), (tqL, .inl (cyJ, 7, .inr (.inl tlast))), (tqW, .inl (cyC, 40, .inl twd)), (tqO, .inl (cyI, 5, .inl v13))]) [0, 1, 2, 3, 4, 5, 6] (by decide) rfl) hnw rfl rfl) rfl rfl hl.1 rfl (lv_room (Nat.le_of_ble_eq_true rfl)) dX4_word_62 ⟨Nat.zero_le _, Nat.zero_le _⟩) hP hD hS hA [0, 1, 2, 3, 4, 5, 6] [] rfl rfl rfl (by decide) (fun H locs hP hD hS => ?_)
            have hP : va_P (dC, dI) vwCl [(th, .inr (4, [.int tthr, .int tdd, .int tn, .ref tqA, .ref tqB, .ref tqC, .long w173, .long w174, .long w175, .long w176, .long w177, .long w178, .long w179, .int tsome, .ref tqL, .int tlet, .ref tqW, .ref tqO])), (tqA, .inl (cyJ, 40, .inr (.inl tla))), (tqB, .inl (cyJ, 40, .inr (.inl tlb))), (tqC, .inl (cyJ, 40, .inr (.inl tlc))), (tqL, .inl (cyJ, 7, .inr (.inl tlast))), (tqW, .inl (cyC, 40, .inl twd)), (tqO, .inl (cyI, 5, .inl v13))] H := hP
            have hD : va_D A [(th, .inr (4, [.int tthr, .int tdd, .int tn, .ref tqA, .ref tqB, .ref tqC, .long w173, .long w174, .long w175, .long w176, .long w177, .long w178, .long w179, .int tsome, .ref tqL, .int tlet, .ref tqW, .ref tqO])), (tqA, .inl (cyJ, 40, .inr (.inl tla))), (tqB, .inl (cyJ, 40, .inr (.inl tlb))), (tqC, .inl (cyJ, 40, .inr (.inl tlc))), (tqL, .inl (cyJ, 7, .inr (.inl tlast))), (tqW, .inl (cyC, 40, .inl twd)), (tqO, .inl (cyI, 5, .inl v13))] := hD
            obtain ⟨w181, w182, w183, w184, w185, w186, w187, w188, hk189, h⟩ := dm_b8s h
            refine mc_v (wr := []) (va_runV (As := [.int v5, .int r172]) (rest := []) ⟨hx, hb, hml, hown, hts⟩ (c_X4_join l dC dI cyI cyJ cyC th tqA tqB tqC tqL tqW tqO H.size tthr tdd tn tla tlb tlc w173 w174 w175 w176 w177 w178 w179 tsome tlast tlet twd v13 v5 r172 w181 w182 w183 w184 w185 w186 w187 w188 hk189) (cwV 2 hts gX4_word_X4_join rfl rfl rfl (by decide +kernel) ⟨(Nat.le_of_ble_eq_true rfl), (Nat.le_of_ble_eq_true rfl)⟩) (mc_preV hK (hP.sub (ws' := [(th, .inr (4, [.int tthr, .int tdd, .int tn, .ref tqA, .ref tqB, .ref tqC, .long w173, .long w174, .long w175, .long w176, .long w177, .long w178, .long w179, .int tsome, .ref tqL, .int tlet, .ref tqW, .ref tqO])), (tqA, .inl (cyJ, 40, .inr (.inl tla))), (tqB, .inl (cyJ, 40, .inr (.inl tlb))), (tqC, .inl (cyJ, 40, .inr (.inl tlc))), (tqL, .inl (cyJ, 7, .inr (.inl tlast))), (tqW, .inl (cyC, 40, .inl twd)), (tqO, .inl (cyI, 5, .inl v13))]) [0, 1, 2, 3, 4, 5, 6] rfl) (hD.sub (ws' := [(th, .inr (4, [.int tthr, .int tdd, .int tn, .ref tqA, .ref tqB, .ref tqC, .long w173, .long w174, .long w175, .long w176, .long w177, .long w178, .long w179, .int tsome, .ref tqL, .int tlet, .ref tqW, .ref tqO])), (tqA, .inl (cyJ, 40, .inr (.inl tla))), (tqB, .inl (cyJ, 40, .inr (.inl tlb))), (tqC, .inl (cyJ, 40, .inr (.inl tlc))), (tqL, .inl (cyJ, 7, .inr (.inl tlast))), (tqW, .inl (cyC, 40, .inl twd)), (tqO, .inl (cyI, 5, .inl v13))]) [0, 1, 2, 3, 4, 5, 6] (by decide) rfl) hnw rfl rfl) rfl rfl hl.1 rfl (lv_room (Nat.le_of_ble_eq_true rfl)) dX4_word_65 ⟨Nat.zero_le _, Nat.zero_le _⟩) hP hD hS hA [0, 1, 2, 3, 4, 5, 6] [] rfl rfl rfl (by decide) (fun H locs hP hD hS => ?_)
            have hP : va_P (dC, dI) vwCl [(th, .inr (4, [.int tthr, .int tdd, .int tn, .ref tqA, .ref tqB, .ref tqC, .long w181, .long w182, .long w183, .long w184, .long w185, .long w186, .long w187, .int tsome, .ref tqL, .int tlet, .ref tqW, .ref tqO])), (tqA, .inl (cyJ, 40, .inr (.inl tla))), (tqB, .inl (cyJ, 40, .inr (.inl tlb))), (tqC, .inl (cyJ, 40, .inr (.inl tlc))), (tqL, .inl (cyJ, 7, .inr (.inl tlast))), (tqW, .inl (cyC, 40, .inl twd)), (tqO, .inl (cyI, 5, .inl w188))] H := hP
            have hD : va_D A [(th, .inr (4, [.int tthr, .int tdd, .int tn, .ref tqA, .ref tqB, .ref tqC, .long w181, .long w182, .long w183, .long w184, .long w185, .long w186, .long w187, .int tsome, .ref tqL, .int tlet, .ref tqW, .ref tqO])), (tqA, .inl (cyJ, 40, .inr (.inl tla))), (tqB, .inl (cyJ, 40, .inr (.inl tlb))), (tqC, .inl (cyJ, 40, .inr (.inl tlc))), (tqL, .inl (cyJ, 7, .inr (.inl tlast))), (tqW, .inl (cyC, 40, .inl twd)), (tqO, .inl (cyI, 5, .inl w188))] := hD
            refine lv_iconst (v := -1) hx hb dX4_word_68 (by decide) ?_
            refine lv_istore_n (lv' := [(2, .int (-1 : Int32)), (5, .int x34), (4, .int v2), (3, .int v3), (1, .int v5), (0, .ref th)]) hx hb dX4_word_69 rfl hl (by decide) rfl (fun ls hl => ?_)
            refine lv_goto (tgt := 215) hx hb dX4_word_70 (by decide) ?_
            obtain ⟨x190, ex190⟩ : ∃ y : Int32, y = (v2 + (1 : Int32)) := ⟨_, rfl⟩
            have h := dm_lu ex190 h
            refine lv_iinc (v := x190) (lv' := [(4, .int x190), (2, .int (-1 : Int32)), (5, .int x34), (3, .int v3), (1, .int v5), (0, .ref th)]) hx hb dX4_word_215 hl (k := 2) rfl (by rw [ex190]; rfl) (by decide) rfl (fun ls hl => ?_)
            refine lv_goto (tgt := 16) hx hb dX4_word_218 (by decide) ?_
            exact ih16 x190 v3 (-1 : Int32) v5 w181 w182 w183 w184 w185 w186 w187 w188 H _ ls h (hP.sub [0, 1, 2, 3, 4, 5, 6] rfl) (hD.sub [0, 1, 2, 3, 4, 5, 6] (by decide) rfl) hS (lv_sub hl [0, 3, 1, 4, 5] rfl)
          · have h := dm_t hc171 h
            refine lv_aload_n hx hb dX4_word_47 rfl (lv_at hl 5 rfl) ?_
            refine lv_iconst (v := 1) hx hb dX4_word_48 (by decide) ?_
            obtain ⟨r191, w192, hk193, h⟩ := dm_b2s h
            refine mc_i (wr := []) (va_runV (As := [.int (1 : Int32)]) (rest := []) ⟨hx, hb, hml, hown, hts⟩ (c_X4_refuse l dC dI cyI cyJ cyC th tqA tqB tqC tqL tqW tqO H.size tthr tdd tn tla tlb tlc v6 v7 v8 v9 v10 v11 v12 tsome tlast tlet twd v13 (1 : Int32) r191 w192 hk193) (cwV 1 hts gX4_word_X4_refuse rfl rfl rfl (by decide +kernel) ⟨(Nat.le_of_ble_eq_true rfl), (Nat.le_of_ble_eq_true rfl)⟩) (mc_preV hK (hP.sub (ws' := [(th, .inr (4, [.int tthr, .int tdd, .int tn, .ref tqA, .ref tqB, .ref tqC, .long v6, .long v7, .long v8, .long v9, .long v10, .long v11, .long v12, .int tsome, .ref tqL, .int tlet, .ref tqW, .ref tqO])), (tqA, .inl (cyJ, 40, .inr (.inl tla))), (tqB, .inl (cyJ, 40, .inr (.inl tlb))), (tqC, .inl (cyJ, 40, .inr (.inl tlc))), (tqL, .inl (cyJ, 7, .inr (.inl tlast))), (tqW, .inl (cyC, 40, .inl twd)), (tqO, .inl (cyI, 5, .inl v13))]) [0, 1, 2, 3, 4, 5, 6] rfl) (hD.sub (ws' := [(th, .inr (4, [.int tthr, .int tdd, .int tn, .ref tqA, .ref tqB, .ref tqC, .long v6, .long v7, .long v8, .long v9, .long v10, .long v11, .long v12, .int tsome, .ref tqL, .int tlet, .ref tqW, .ref tqO])), (tqA, .inl (cyJ, 40, .inr (.inl tla))), (tqB, .inl (cyJ, 40, .inr (.inl tlb))), (tqC, .inl (cyJ, 40, .inr (.inl tlc))), (tqL, .inl (cyJ, 7, .inr (.inl tlast))), (tqW, .inl (cyC, 40, .inl twd)), (tqO, .inl (cyI, 5, .inl v13))]) [0, 1, 2, 3, 4, 5, 6] (by decide) rfl) hnw rfl rfl) rfl rfl hl.1 rfl (lv_room (Nat.le_of_ble_eq_true rfl)) dX4_word_49 ⟨Nat.zero_le _, Nat.zero_le _⟩) hP hD hS hA [0, 1, 2, 3, 4, 5, 6] [] rfl rfl rfl (by decide) (fun H locs hP hD hS => ?_)
            have hP : va_P (dC, dI) vwCl [(th, .inr (4, [.int w192, .int tdd, .int tn, .ref tqA, .ref tqB, .ref tqC, .long v6, .long v7, .long v8, .long v9, .long v10, .long v11, .long v12, .int tsome, .ref tqL, .int tlet, .ref tqW, .ref tqO])), (tqA, .inl (cyJ, 40, .inr (.inl tla))), (tqB, .inl (cyJ, 40, .inr (.inl tlb))), (tqC, .inl (cyJ, 40, .inr (.inl tlc))), (tqL, .inl (cyJ, 7, .inr (.inl tlast))), (tqW, .inl (cyC, 40, .inl twd)), (tqO, .inl (cyI, 5, .inl v13))] H := hP
            have hD : va_D A [(th, .inr (4, [.int w192, .int tdd, .int tn, .ref tqA, .ref tqB, .ref tqC, .long v6, .long v7, .long v8, .long v9, .long v10, .long v11, .long v12, .int tsome, .ref tqL, .int tlet, .ref tqW, .ref tqO])), (tqA, .inl (cyJ, 40, .inr (.inl tla))), (tqB, .inl (cyJ, 40, .inr (.inl tlb))), (tqC, .inl (cyJ, 40, .inr (.inl tlc))), (tqL, .inl (cyJ, 7, .inr (.inl tlast))), (tqW, .inl (cyC, 40, .inl twd)), (tqO, .inl (cyI, 5, .inl v13))] := hD
            obtain ⟨hE0, hE1, hE2, hE3, hE4, hE5, hE6, hE7, hE8, hE9⟩ := dm_i10 h
            subst hE0; subst hE1; subst hE2; subst hE3; subst hE4; subst hE5; subst hE6; subst hE7; subst hE8; subst hE9
            rw [hQQ]
            have hP9 := hP.sub (ws' := [(th, .inr (4, [.int w192, .int tdd, .int tn, .ref tqA, .ref tqB, .ref tqC, .long v6, .long v7, .long v8, .long v9, .long v10, .long v11, .long v12, .int tsome, .ref tqL, .int tlet, .ref tqW, .ref tqO])), (tqA, .inl (cyJ, 40, .inr (.inl tla))), (tqB, .inl (cyJ, 40, .inr (.inl tlb))), (tqC, .inl (cyJ, 40, .inr (.inl tlc))), (tqL, .inl (cyJ, 7, .inr (.inl tlast))), (tqW, .inl (cyC, 40, .inl twd)), (tqO, .inl (cyI, 5, .inl v13))]) [0, 1, 2, 3, 4, 5, 6] rfl
            have hD9 := hD.sub (ws' := [(th, .inr (4, [.int w192, .int tdd, .int tn, .ref tqA, .ref tqB, .ref tqC, .long v6, .long v7, .long v8, .long v9, .long v10, .long v11, .long v12, .int tsome, .ref tqL, .int tlet, .ref tqW, .ref tqO])), (tqA, .inl (cyJ, 40, .inr (.inl tla))), (tqB, .inl (cyJ, 40, .inr (.inl tlb))), (tqC, .inl (cyJ, 40, .inr (.inl tlc))), (tqL, .inl (cyJ, 7, .inr (.inl tlast))), (tqW, .inl (cyC, 40, .inl twd)), (tqO, .inl (cyI, 5, .inl v13))]) [0, 1, 2, 3, 4, 5, 6] (by decide) rfl
            exact W.iret (v := r191) hx hb hr (fun t ht hW => ⟨⟨r191, (), rfl, rfl, by rw [ht]; exact hP9, hD9⟩, hS.F ht⟩) hS.2.2 dX4_word_52
  exact L16 100000 (0 : Int32) (0 : Int32) (-1 : Int32) (0 : Int32) ta tb tc tp tq tr ts (upd topn ((0 : Int32)).toNatClampNeg (0 : Int32)) H _ ls h hP hD hS hl
