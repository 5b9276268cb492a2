def mc_nc (U : State) : Prop := va_Nc "java/lang/ArithmeticException" "java/lang/IllegalArgumentException" U ∧ va_Nc "java/lang/IllegalArgumentException" "java/util/NoSuchElementException" U ∧ va_Nc "java/util/NoSuchElementException" "java/lang/IllegalArgumentException" U
theorem mc_nc.moved {u U : State} (hvm : u.vm.Alike U.vm) (h : mc_nc u) : mc_nc U := ⟨h.1.moved hvm, h.2.1.moved hvm, h.2.2.moved hvm⟩
theorem mc_nc.AE_IAE {U : State} (h : mc_nc U) : va_Nc "java/lang/ArithmeticException" "java/lang/IllegalArgumentException" U := h.1
theorem mc_nc.IAE_NSE {U : State} (h : mc_nc U) : va_Nc "java/lang/IllegalArgumentException" "java/util/NoSuchElementException" U := h.2.1
theorem mc_nc.NSE_IAE {U : State} (h : mc_nc U) : va_Nc "java/util/NoSuchElementException" "java/lang/IllegalArgumentException" U := h.2.2
abbrev mc_PreC (D : va_G) (tys : List (ClassId × FieldType)) (ws : va_W) (sz : Nat) : State → Prop := fun U => U.heap.size = sz ∧ va_P D vwCl ws U.heap ∧ va_K D vwCl tys U ∧ va_D (fun _ => True) ws ∧ mc_nw U ∧ mc_nx U ∧ vx_Zq Bundle.tN "UNASSIGNED_STACK" Bundle.steD (va_A ws sz) U U.heap ∧ vx_Zq Bundle.tN "SUPPRESSED_SENTINEL" Bundle.listD (va_A ws sz) U U.heap ∧ mc_nc U
theorem mc_preVX {D : va_G} {tys : List (ClassId × FieldType)} {ws : va_W} {As : List Value} {A : Nat → Prop} {s : State} {H : Heap} {b ci : Nat} {q : vw_C} {fs : List Value} (hK : va_K D vwCl tys s) (hP : va_P D vwCl ws H) (hD : va_D A ws) (hnw : mc_nw s) (hnx : mc_nx s) (hU : vx_Zq Bundle.tN "UNASSIGNED_STACK" Bundle.steD (va_A ws H.size) s H) (hN : vx_Zq Bundle.tN "SUPPRESSED_SENTINEL" Bundle.listD (va_A ws H.size) s H) (hc : vwCl[ci]? = some q) (he : ws[0]? = some (b, .inr (ci, fs))) : PreV s H q.1 b (va_Pc (.ref b :: As) (mc_PreX D tys ws H.size)) As :=
  ⟨fun a U g mk q => by
    obtain ⟨q0, q1, qP, qK, qD, qN, qX, qU, qV⟩ := q
    exact ⟨q0, q1, qP, va_K.moved (u := U) (U := U.calling g mk a) (Vm.Alike.refl U.vm) qK, qD, mc_nw.warm (s := U) (U := U.calling g mk a) (State.WarmedH.refl U) qN, mc_nx.warm (s := U) (U := U.calling g mk a) (State.WarmedH.refl U) qX, vx_Zq.moved (u := U) (U := U.calling g mk a) (Vm.Alike.refl U.vm) qU, vx_Zq.moved (u := U) (U := U.calling g mk a) (Vm.Alike.refl U.vm) qV⟩,
   va_recv hK hP hc he, fun U hU' hW => ⟨rfl, by rw [hU'], by rw [hU']; exact hP, va_K.moved hW.alike hK, hD.weaken (fun _ _ _ _ => trivial), mc_nw.warm hW hnw, mc_nx.warm hW hnx, by rw [hU']; exact vx_Zq.moved hW.alike hU, by rw [hU']; exact vx_Zq.moved hW.alike hN⟩⟩
theorem mc_preSC {D : va_G} {tys : List (ClassId × FieldType)} {ws : va_W} {av : List Value} {A : Nat → Prop} {s : State} {H : Heap} (hK : va_K D vwCl tys s) (hP : va_P D vwCl ws H) (hD : va_D A ws) (hnw : mc_nw s) (hnx : mc_nx s) (hU : vx_Zq Bundle.tN "UNASSIGNED_STACK" Bundle.steD (va_A ws H.size) s H) (hN : vx_Zq Bundle.tN "SUPPRESSED_SENTINEL" Bundle.listD (va_A ws H.size) s H) (hnc : mc_nc s) : PreS s H (va_Pc av (mc_PreC D tys ws H.size)) av :=
  ⟨fun a U g mk q => by
    obtain ⟨q0, q1, qP, qK, qD, qN, qX, qU, qV, qC⟩ := q
    exact ⟨q0, q1, qP, va_K.moved (u := U) (U := U.calling g mk a) (Vm.Alike.refl U.vm) qK, qD, mc_nw.warm (s := U) (U := U.calling g mk a) (State.WarmedH.refl U) qN, mc_nx.warm (s := U) (U := U.calling g mk a) (State.WarmedH.refl U) qX, vx_Zq.moved (u := U) (U := U.calling g mk a) (Vm.Alike.refl U.vm) qU, vx_Zq.moved (u := U) (U := U.calling g mk a) (Vm.Alike.refl U.vm) qV, mc_nc.moved (u := U) (U := U.calling g mk a) (Vm.Alike.refl U.vm) qC⟩,
   fun U hU' hW => ⟨rfl, by rw [hU'], by rw [hU']; exact hP, va_K.moved hW.alike hK, hD.weaken (fun _ _ _ _ => trivial), mc_nw.warm hW hnw, mc_nx.warm hW hnx, by rw [hU']; exact vx_Zq.moved hW.alike hU, by rw [hU']; exact vx_Zq.moved hW.alike hN, hnc.moved hW.alike⟩⟩
section MXT
variable {p : Program} {l : Launch} {e : Env} {R : Room} {s : State} {m : MethodId} {args : Array Value} {below : List Frame} {meth : Method} {c : Code} {H H0 : Heap} {locs : List Loc} {cells slots mc ms pc : Nat} {Q : State → Prop} {ls : Array Slot} {st0 rest : List Value} {D : va_G} {ws wc wr w1 : va_W} {A0 : Nat → Prop} {a : Array Value}
/-- a call that throws -/
theorem mx_t {cls : String} (hr : vx_Run p l e R s m args below meth c H locs cells slots mc ms (F0 m pc ls st0) rest (mc_no a) (mc_X D (va_A wc H.size) cls w1) (va_A wc H.size)) (hP : va_P D vwCl ws H) (hD : va_D A0 ws) (hS : va_S A0 H0 H locs) (hA : ∀ q, H0.size ≤ q → A0 q) (isC isR : List Nat) (hC : isC.map (fun i => ws[i]?) = wc.map some) (hR : isR.map (fun i => ws[i]?) = wr.map some) (hn : va_nd isR = true) (hdis : ∀ i ∈ isR, i ∉ isC)
    (kx : ∀ (ce : Cell) (q9 : Addr) (H1 : Heap) (locs1 : List Loc), va_P D vwCl (wr ++ w1) H1 → va_D A0 (wr ++ w1) → va_S A0 H0 H1 locs1 → H1[q9]? = some ce → ce.vm = .none → s.vm.findClass cls = some ce.cls → vx_W p l e R s m args below meth c H1 locs1 (cells + mc) (slots + ms) Q (F0 m pc ls rest) q9) : W p l e R s m args below meth c H locs cells slots Q (F0 m pc ls st0) := by
  have hFc := va_free (wc := wc) hD hS hA isC hC
  intro T hT X
  rcases hr T hT X with ⟨v, st₀, t, T', L, h0, X', hL, e1, e2, hq, st⟩ | ⟨q, st₀, t, T', L, E, ce, h0, X', hL, e1, e2, ⟨u, hp, ⟨hE, hP1, hD1⟩, hF⟩, hce, hcv, hcl, st⟩
  · exact hq.elim
  · subst hE
    obtain ⟨k1, k2, k3⟩ := vx_keep h0 e1 hS (fun q _ h => hFc q h) hFc hL hF
    rw [← e1] at hP1
    obtain ⟨hP2, hD2⟩ := va_join (wr := wr) (w1 := w1) hP hD isC isR hC hR hn hdis k2 hFc hP1 hD1
    obtain ⟨t2, a1, b1⟩ := kx ce q T'.heap (locs ++ L) hP2 hD2 k3 (by rw [e1]; exact hce) hcv hcl T' rfl X'
    exact ⟨t2, st.trans a1, b1⟩
end MXT
