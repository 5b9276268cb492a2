theorem pu_RL_iff (fa fb fc : Nat → Int32) (dd sz md mn : Int32) (la lb lc : Nat → Int64) : pu_RL fa fb fc dd sz md mn la lb lc ↔ ∃ D : Int, pu_ok D ∧ (pu_list D).length ≤ 40 ∧ dd = zi D ∧ md = zi D ∧ sz = zi (pu_list D).length ∧ mn = zi (pu_list D).length ∧ hl3 (pu_list D) fa fb fc ∧ hl4 (pu_list D) la lb lc := by
  unfold pu_RL hl3 hl4
  constructor
  · rintro ⟨D, h1, h2, h3, h4, h5, h6, h7⟩
    refine ⟨D, h1, h2, h3, h4, by rw [h5, zi_ofNat], by rw [h6, zi_ofNat], fun i hi => ?_, fun i hi _ => ?_⟩
    · exact ⟨(h7 i hi).1, (h7 i hi).2.1, (h7 i hi).2.2.1⟩
    · exact (h7 i hi).2.2.2
  · rintro ⟨D, h1, h2, h3, h4, h5, h6, h7, h8⟩
    refine ⟨D, h1, h2, h3, h4, by rw [h5, zi_ofNat], by rw [h6, zi_ofNat], fun i hi => ?_⟩
    exact ⟨(h7 i hi).1, (h7 i hi).2.1, (h7 i hi).2.2, h8 i hi (by omega)⟩
theorem q_desk (d : Int) (h1 : -2147483648 ≤ d) (h2 : d ≤ 2147483647) : (pu_ok d → f_X3_isDeskDiscriminant (zi d) = some 1) ∧ (¬ pu_ok d → f_X3_isDeskDiscriminant (zi d) = some 0) := by
  rw [f_X3_isDeskDiscriminant, zi4, q_fmod d 4 h1 h2 (by omega) (by omega), e_b1, zim2000]
  have c1 : (zi d < zi (-2000)) ↔ d < -2000 := by rw [zi_lt (by omega) (by omega) (by omega) (by omega)]
  have c2 : (0 ≤ zi d) ↔ 0 ≤ d := by rw [zi0, zi_le (by omega) (by omega) (by omega) (by omega)]
  have c3 : (zi (d % 4) = 0) ↔ d % 4 = 0 := by rw [zi0, zi_eq (by omega) (by omega) (by omega) (by omega)]
  have c4 : (zi (d % 4) = 1) ↔ d % 4 = 1 := by rw [zi1, zi_eq (by omega) (by omega) (by omega) (by omega)]
  simp only [c1, c2, c3, c4]
  unfold pu_ok
  constructor
  · intro h
    (repeat' split) <;> first | rfl | (exfalso; omega)
  · intro h
    (repeat' split) <;> first | rfl | (exfalso; omega)
theorem q_out (x a b : Int) (h1 : -2147483648 ≤ x) (h2 : x ≤ 2147483647) (h3 : -2147483648 ≤ a) (h4 : a ≤ 2147483647) (h5 : -2147483648 ≤ b) (h6 : b ≤ 2147483647) : (a ≤ x ∧ x ≤ b → f_X4_outside (zi x) (zi a) (zi b) = some 0) ∧ (¬ (a ≤ x ∧ x ≤ b) → f_X4_outside (zi x) (zi a) (zi b) = some 1) := by
  rw [f_X4_outside]
  simp (disch := omega) only [zi_lt, zi_le]
  constructor
  · intro h
    (repeat' split) <;> first | rfl | (exfalso; omega)
  · intro h
    (repeat' split) <;> first | rfl | (exfalso; omega)
theorem pu_discriminant (xcfa : Nat → Int32) (xcfb : Nat → Int32) (xcfc : Nat → Int32) (xcdd : Int32) (xcsz : Int32) (xsfa : Nat → Int32) (xsfb : Nat → Int32) (xsfc : Nat → Int32) (xsdd : Int32) (xssz : Int32) (xlra : Int32) (xlrb : Int32) (xlrc : Int32) (xlrp : Int32) (xlrq : Int32) (xlrr : Int32) (xlrs : Int32) (xlrd : Int32) (xany : Int32) (xwrow : Nat → Int32) (xwlen : Int32) (mdd : Int32) (mn : Int32) (mla : Nat → Int64) (mlb : Nat → Int64) (mlc : Nat → Int64) (msome : Int32) (mlast : Nat → Int64) (mlet : Int32) (mwd : Nat → Int32) (hR : pu_R xcfa xcfb xcfc xcdd xcsz xany xlra xlrb xlrc xlrp xlrq xlrr xlrs xlrd xwrow xwlen mdd mn mla mlb mlc msome mlast mlet mwd) (p0 : Int32) : (∃ (rv : Int32) (xsfa' : Nat → Int32) (xsfb' : Nat → Int32) (xsfc' : Nat → Int32) (xsdd' : Int32) (xssz' : Int32) (mthr' : Int32) (mdd' : Int32) (mn' : Int32) (mla' : Nat → Int64) (mlb' : Nat → Int64) (mlc' : Nat → Int64), f_X3_discriminant xsfa xsfb xsfc xsdd xssz p0 = some (.inl (rv, xsfa', xsfb', xsfc', xsdd', xssz')) ∧ f_X4_discriminant mdd mn mla mlb mlc p0 = some (rv, mthr', mdd', mn', mla', mlb', mlc') ∧ mthr' = 0 ∧ pu_R xsfa' xsfb' xsfc' xsdd' xssz' xany xlra xlrb xlrc xlrp xlrq xlrr xlrs xlrd xwrow xwlen mdd' mn' mla' mlb' mlc' msome mlast mlet mwd) ∨ (∃ (xsfa' : Nat → Int32) (xsfb' : Nat → Int32) (xsfc' : Nat → Int32) (xsdd' : Int32) (xssz' : Int32) (bv : Int32) (mthr' : Int32) (mdd' : Int32) (mn' : Int32) (mla' : Nat → Int64) (mlb' : Nat → Int64) (mlc' : Nat → Int64), f_X3_discriminant xsfa xsfb xsfc xsdd xssz p0 = some (.inr (.inl (xsfa', xsfb', xsfc', xsdd', xssz'))) ∧ f_X4_discriminant mdd mn mla mlb mlc p0 = some (bv, mthr', mdd', mn', mla', mlb', mlc') ∧ mthr' = 1 ∧ pu_R xcfa xcfb xcfc xcdd xcsz xany xlra xlrb xlrc xlrp xlrq xlrr xlrs xlrd xwrow xwlen mdd' mn' mla' mlb' mlc' msome mlast mlet mwd) ∨ (∃ (xsfa' : Nat → Int32) (xsfb' : Nat → Int32) (xsfc' : Nat → Int32) (xsdd' : Int32) (xssz' : Int32) (bv : Int32) (mthr' : Int32) (mdd' : Int32) (mn' : Int32) (mla' : Nat → Int64) (mlb' : Nat → Int64) (mlc' : Nat → Int64), f_X3_discriminant xsfa xsfb xsfc xsdd xssz p0 = some (.inr (.inr (xsfa', xsfb', xsfc', xsdd', xssz'))) ∧ f_X4_discriminant mdd mn mla mlb mlc p0 = some (bv, mthr', mdd', mn', mla', mlb', mlc') ∧ mthr' = 2 ∧ pu_R xcfa xcfb xcfc xcdd xcsz xany xlra xlrb xlrc xlrp xlrq xlrr xlrs xlrd xwrow xwlen mdd' mn' mla' mlb' mlc' msome mlast mlet mwd) := by
  obtain ⟨hL, hRR, hRW⟩ := hR
  have hL' := hL
  rw [pu_RL_iff] at hL'
  obtain ⟨D0, k1, k2, k3, k4, k5, k6, k7, k8⟩ := hL'
  have g1 := zi_ge p0
  have g2 := zi_gt p0
  rw [zi_of p0]
  generalize p0.toInt = d at g1 g2
  have hrm : ((zi d - zi d / 4 * 4) + 4) - ((zi d - zi d / 4 * 4) + 4) / 4 * 4 = zi (d % 4) := by
    rw [zi4, zi_rem (by omega) (by omega) (by omega) (by omega), zi_add]
    rcases q_tm d 4 (by omega) with ⟨h, e1, e2⟩ | ⟨h, e1, e3, e2⟩ | ⟨h, e1, e3, e2⟩
    · rw [e1, zi_rem (by omega) (by omega) (by omega) (by omega), Int.tmod_eq_emod_of_nonneg (by omega)]; congr 1; omega
    · rw [e1, zi_rem (by omega) (by omega) (by omega) (by omega), Int.tmod_eq_emod_of_nonneg (by omega)]; congr 1; omega
    · rw [e1, zi_rem (by omega) (by omega) (by omega) (by omega), Int.tmod_eq_emod_of_nonneg (by omega)]; congr 1; omega
  by_cases hok : pu_ok d
  · have hok' := hok
    unfold pu_ok at hok'
    have hx4 : ∀ {α : Type} (A B C : Option α), (dm_b1 (f_X4_outside (zi d) (-2000 : Int32) (-3 : Int32)) fun r1 => if r1 = 0 then (if zi (d % 4) ≤ (1 : Int32) then A else B) else C) = A := by
      intro α A B C
      rw [zim2000, zim3, (q_out d (-2000) (-3) g1 g2 (by omega) (by omega) (by omega) (by omega)).1 (by omega), e_b1, if_pos rfl, zi1, if_pos (by rw [zi_le (by omega) (by omega) (by omega) (by omega)]; omega)]
    obtain ⟨f1, f2⟩ := q_fill d (by omega) (by omega) xsfa xsfb xsfc
    obtain ⟨la1, lb1, lc1, r1, H1⟩ := q_lst d (by omega) (by omega) mla mlb mlc
    by_cases h40 : (pu_list d).length ≤ 40
    · left
      obtain ⟨fa1, fb1, fc1, r2, H2⟩ := f1 h40
      refine ⟨zi (pu_list d).length, fa1, fb1, fc1, zi d, zi (pu_list d).length, 0, zi d, zi (pu_list d).length, la1, lb1, lc1, ?_, ?_, rfl, ?_, hRR, hRW⟩
      · rw [f_X3_discriminant, (q_desk d g1 g2).1 hok, e_b1, if_neg (show ¬ (1 : Int32) = 0 by decide), r2, e_b6, if_neg (show ¬ (1 : Int32) = 0 by decide)]
      · rw [f_X4_discriminant, hrm, hx4, r1, e_b6, zi40, if_neg (by rw [zi_lt (by omega) (by omega) (by omega) (by omega)]; omega)]
      · rw [pu_RL_iff]; exact ⟨d, hok, h40, rfl, rfl, rfl, rfl, H2, H1⟩
    · right; right
      obtain ⟨fa1, fb1, fc1, sz1, r2⟩ := f2 (by omega)
      have k1' := k1
      unfold pu_ok at k1'
      obtain ⟨la2, lb2, lc2, r3, H3⟩ := q_lst D0 (by omega) (by omega) la1 lb1 lc1
      have hlen : (pu_list d).length ≤ 10000 := by
        have : ∀ (j a : Nat), 0 < a → a + j = 27 → (pu_as d a j).length ≤ 60 * j := by
          intro j
          induction j with
          | zero => intro a _ _; exact Nat.le_refl 0
          | succ j ih => intro a ha haj; rw [pu_as_succ, List.length_append]; have := ih (a + 1) (by omega) (by omega); have := pu_ms_len d a; omega
        have := this 26 1 (by omega) (by omega)
        rw [pu_as_eq] at this; omega
      refine ⟨fa1, fb1, fc1, zi d, sz1, 0, 2, zi D0, zi (pu_list D0).length, la2, lb2, lc2, ?_, ?_, rfl, ?_, hRR, hRW⟩
      · rw [f_X3_discriminant, (q_desk d g1 g2).1 hok, e_b1, if_neg (show ¬ (1 : Int32) = 0 by decide), r2, e_b6, if_pos rfl]
      · rw [f_X4_discriminant, hrm, hx4, r1, e_b6, zi40, if_pos (by rw [zi_lt (by omega) (by omega) (by omega) (by omega)]; omega), k4, r3, e_b6]
        rfl
      · rw [pu_RL_iff]; exact ⟨D0, k1, k2, k3, rfl, k5, rfl, k7, H3⟩
  · right; left
    refine ⟨xsfa, xsfb, xsfc, xsdd, xssz, 0, 1, mdd, mn, mla, mlb, mlc, ?_, ?_, rfl, hL, hRR, hRW⟩
    · rw [f_X3_discriminant, (q_desk d g1 g2).2 hok, e_b1, if_pos rfl]
    · unfold pu_ok at hok
      rw [f_X4_discriminant, hrm, zim2000, zim3]
      by_cases ho : -2000 ≤ d ∧ d ≤ -3
      · rw [(q_out d (-2000) (-3) g1 g2 (by omega) (by omega) (by omega) (by omega)).1 ho, e_b1, if_pos rfl, zi1, if_neg (by rw [zi_le (by omega) (by omega) (by omega) (by omega)]; omega)]
        rfl
      · rw [(q_out d (-2000) (-3) g1 g2 (by omega) (by omega) (by omega) (by omega)).2 ho, e_b1, if_neg (show ¬ (1 : Int32) = 0 by decide)]
        rfl
theorem pu_init : ∃ (xo0 xo1 : Int32) (xo2 xo3 xo4 : Nat → Int32) (mo0 mo1 : Int32) (mo2 mo3 mo4 : Nat → Int64), f_X3_init = some (xo0, xo1, xo2, xo3, xo4) ∧ f_X4_init = some (mo0, mo1, mo2, mo3, mo4) ∧ pu_R xo2 xo3 xo4 xo0 xo1 (0 : Int32) (0 : Int32) (0 : Int32) (0 : Int32) (0 : Int32) (0 : Int32) (0 : Int32) (0 : Int32) (0 : Int32) (fun _ => (0 : Int32)) (0 : Int32) mo0 mo1 mo2 mo3 mo4 (0 : Int32) (fun _ => (0 : Int64)) (0 : Int32) (fun _ => (0 : Int32)) := by
  have h3 : (pu_list (-3)).length ≤ 40 := by decide +kernel
  obtain ⟨fa1, fb1, fc1, r2, H2⟩ := (q_fill (-3) (by omega) (by omega) (fun _ => 0) (fun _ => 0) (fun _ => 0)).1 h3
  obtain ⟨la1, lb1, lc1, r1, H1⟩ := q_lst (-3) (by omega) (by omega) (fun _ => 0) (fun _ => 0) (fun _ => 0)
  refine ⟨zi (-3), zi (pu_list (-3)).length, fa1, fb1, fc1, zi (-3), zi (pu_list (-3)).length, la1, lb1, lc1, ?_, ?_, ?_, ?_, ?_⟩
  · rw [f_X3_init, zim3, r2, e_b6]
  · rw [f_X4_init, zim3, r1, e_b6]
  · rw [pu_RL_iff]; exact ⟨-3, by unfold pu_ok; omega, h3, rfl, rfl, rfl, rfl, H2, H1⟩
  · left; exact ⟨rfl, rfl⟩
  · exact ⟨0, by omega, rfl, rfl, fun i h => by omega⟩
theorem q_has (n k : Int) (h1 : -2147483648 ≤ k) (h2 : k ≤ 2147483647) (h3 : 0 ≤ n) (h4 : n ≤ 2147483647) : (0 ≤ k ∧ k < n → f_X0_has (zi n) (zi k) = some 1 ∧ f_X4_isClass (zi n) (zi k) = some 1) ∧ (¬ (0 ≤ k ∧ k < n) → f_X0_has (zi n) (zi k) = some 0 ∧ f_X4_isClass (zi n) (zi k) = some 0) := by
  rw [f_X0_has, f_X4_isClass, zi0, zi1, zi_sub]
  simp (disch := omega) only [zi_lt, zi_le]
  constructor
  · intro h
    refine ⟨?_, ?_⟩
    · (repeat' split) <;> first | rfl | (exfalso; omega)
    · rw [(q_out k 0 (n - 1) h1 h2 (by omega) (by omega) (by omega) (by omega)).1 (by omega)]; rfl
  · intro h
    refine ⟨?_, ?_⟩
    · (repeat' split) <;> first | rfl | (exfalso; omega)
    · rw [(q_out k 0 (n - 1) h1 h2 (by omega) (by omega) (by omega) (by omega)).2 (by omega)]; rfl
theorem pu_form (xcfa : Nat → Int32) (xcfb : Nat → Int32) (xcfc : Nat → Int32) (xcdd : Int32) (xcsz : Int32) (xlra : Int32) (xlrb : Int32) (xlrc : Int32) (xlrp : Int32) (xlrq : Int32) (xlrr : Int32) (xlrs : Int32) (xlrd : Int32) (xany : Int32) (xwrow : Nat → Int32) (xwlen : Int32) (mdd : Int32) (mn : Int32) (mla : Nat → Int64) (mlb : Nat → Int64) (mlc : Nat → Int64) (msome : Int32) (mlast : Nat → Int64) (mlet : Int32) (mwd : Nat → Int32) (hR : pu_R xcfa xcfb xcfc xcdd xcsz xany xlra xlrb xlrc xlrp xlrq xlrr xlrs xlrd xwrow xwlen mdd mn mla mlb mlc msome mlast mlet mwd) (p0 : Int32) (p1 : Int32) : (∃ (rv : Int32) (mthr' : Int32), f_X3_form xcfa xcfb xcfc xcsz p0 p1 = some (.inl rv) ∧ f_X4_form mn mla mlb mlc p0 p1 = some (rv, mthr') ∧ mthr' = 0 ∧ pu_R xcfa xcfb xcfc xcdd xcsz xany xlra xlrb xlrc xlrp xlrq xlrr xlrs xlrd xwrow xwlen mdd mn mla mlb mlc msome mlast mlet mwd) ∨ (∃ (bv : Int32) (mthr' : Int32), f_X3_form xcfa xcfb xcfc xcsz p0 p1 = some (.inr ()) ∧ f_X4_form mn mla mlb mlc p0 p1 = some (bv, mthr') ∧ mthr' = 1 ∧ pu_R xcfa xcfb xcfc xcdd xcsz xany xlra xlrb xlrc xlrp xlrq xlrr xlrs xlrd xwrow xwlen mdd mn mla mlb mlc msome mlast mlet mwd) := by
  have hR0 := hR
  obtain ⟨hL, hRR, hRW⟩ := hR
  rw [pu_RL_iff] at hL
  obtain ⟨D0, k1, k2, k3, k4, k5, k6, k7, k8⟩ := hL
  have g1 := zi_ge p0
  have g2 := zi_gt p0
  have g3 := zi_ge p1
  have g4 := zi_gt p1
  rw [zi_of p0, zi_of p1]
  generalize p0.toInt = k at g1 g2
  generalize p1.toInt = w at g3 g4
  subst k5 k6
  obtain ⟨hh1, hh2⟩ := q_has (pu_list D0).length k g1 g2 (by omega) (by omega)
  by_cases hk : 0 ≤ k ∧ k < (pu_list D0).length
  · obtain ⟨u1, u2⟩ := hh1 hk
    have hg : ¬ (zi k < 0 ∨ 40 ≤ (zi k).toNatClampNeg) := by rw [zi0, zi_lt (by omega) (by omega) (by omega) (by omega), zi_nat (by omega) (by omega)]; omega
    have hki : (zi k).toNatClampNeg = k.toNat := zi_nat (by omega) (by omega)
    obtain ⟨v1, v2, v3⟩ := k7 k.toNat (by omega)
    obtain ⟨v4, v5, v6⟩ := k8 k.toNat (by omega) (by omega)
    by_cases hw : 0 ≤ w ∧ w ≤ 2
    · left
      rcases (show w = 0 ∨ w = 1 ∨ w = 2 by omega) with rfl | rfl | rfl
      · refine ⟨(zi ((pu_list D0).getD k.toNat (0, 0, 0)).1), 0, ?_, ?_, rfl, hR0⟩
        rotate_left
        · rw [f_X4_form, u2, e_b1, if_neg (show ¬ (1 : Int32) = 0 by decide), (show f_X4_outside (zi 0) 0 2 = some 0 from (q_out 0 0 2 (by omega) (by omega) (by omega) (by omega) (by omega) (by omega)).1 (by omega)), e_b1, if_pos rfl, if_pos (show zi 0 = 0 from rfl), e_g hg, hki, v4, zj_zi]
        · rw [f_X3_form, u1, e_b1, if_neg (show ¬ (1 : Int32) = 0 by decide), if_neg (show ¬ zi 0 < 0 by decide), if_pos (show zi 0 ≤ 2 by decide), if_pos (show zi 0 = 0 from rfl), e_g hg, hki, v1]
      · refine ⟨(zi ((pu_list D0).getD k.toNat (0, 0, 0)).2.1), 0, ?_, ?_, rfl, hR0⟩
        rotate_left
        · rw [f_X4_form, u2, e_b1, if_neg (show ¬ (1 : Int32) = 0 by decide), (show f_X4_outside (zi 1) 0 2 = some 0 from (q_out 1 0 2 (by omega) (by omega) (by omega) (by omega) (by omega) (by omega)).1 (by omega)), e_b1, if_pos rfl, if_neg (show ¬ zi 1 = 0 by decide), if_pos (show zi 1 = 1 from rfl), e_g hg, hki, v5, zj_zi]
        · rw [f_X3_form, u1, e_b1, if_neg (show ¬ (1 : Int32) = 0 by decide), if_neg (show ¬ zi 1 < 0 by decide), if_pos (show zi 1 ≤ 2 by decide), if_neg (show ¬ zi 1 = 0 by decide), if_pos (show zi 1 = 1 from rfl), e_g hg, hki, v2]
      · refine ⟨(zi ((pu_list D0).getD k.toNat (0, 0, 0)).2.2), 0, ?_, ?_, rfl, hR0⟩
        rotate_left
        · rw [f_X4_form, u2, e_b1, if_neg (show ¬ (1 : Int32) = 0 by decide), (show f_X4_outside (zi 2) 0 2 = some 0 from (q_out 2 0 2 (by omega) (by omega) (by omega) (by omega) (by omega) (by omega)).1 (by omega)), e_b1, if_pos rfl, if_neg (show ¬ zi 2 = 0 by decide), if_neg (show ¬ zi 2 = 1 by decide), e_g hg, hki, v6, zj_zi]
        · rw [f_X3_form, u1, e_b1, if_neg (show ¬ (1 : Int32) = 0 by decide), if_neg (show ¬ zi 2 < 0 by decide), if_pos (show zi 2 ≤ 2 by decide), if_neg (show ¬ zi 2 = 0 by decide), if_neg (show ¬ zi 2 = 1 by decide), e_g hg, hki, v3]
    · right
      refine ⟨0, 1, ?_, ?_, rfl, hR0⟩
      · rw [f_X3_form, u1, e_b1, if_neg (show ¬ (1 : Int32) = 0 by decide)]
        have c1 : (zi w < 0) ↔ w < 0 := by rw [zi0, zi_lt (by omega) (by omega) (by omega) (by omega)]
        have c2 : (zi w ≤ 2) ↔ w ≤ 2 := by rw [zi2, zi_le (by omega) (by omega) (by omega) (by omega)]
        simp only [c1, c2]
        by_cases h0 : w < 0
        · rw [if_pos h0]
        · rw [if_neg h0, if_neg (by omega)]
      · rw [f_X4_form, u2, e_b1, if_neg (show ¬ (1 : Int32) = 0 by decide), zi0, zi2, (q_out w 0 2 (by omega) (by omega) (by omega) (by omega) (by omega) (by omega)).2 (by omega), e_b1, if_neg (show ¬ (1 : Int32) = zi 0 by decide)]
        rfl
  · obtain ⟨u1, u2⟩ := hh2 hk
    right
    refine ⟨0, 1, ?_, ?_, rfl, hR0⟩
    · rw [f_X3_form, u1, e_b1, if_pos rfl]
    · rw [f_X4_form, u2, e_b1, if_pos rfl]; rfl
theorem pu_clear (xcfa : Nat → Int32) (xcfb : Nat → Int32) (xcfc : Nat → Int32) (xcdd : Int32) (xcsz : Int32) (xlra : Int32) (xlrb : Int32) (xlrc : Int32) (xlrp : Int32) (xlrq : Int32) (xlrr : Int32) (xlrs : Int32) (xlrd : Int32) (xany : Int32) (xwrow : Nat → Int32) (xwlen : Int32) (mdd : Int32) (mn : Int32) (mla : Nat → Int64) (mlb : Nat → Int64) (mlc : Nat → Int64) (msome : Int32) (mlast : Nat → Int64) (mlet : Int32) (mwd : Nat → Int32) (hR : pu_R xcfa xcfb xcfc xcdd xcsz xany xlra xlrb xlrc xlrp xlrq xlrr xlrs xlrd xwrow xwlen mdd mn mla mlb mlc msome mlast mlet mwd)  : (∃ (xwlen' : Int32) (mthr' : Int32) (mlet' : Int32), f_X3_clear = some xwlen' ∧ f_X4_clear = some (mthr', mlet') ∧ pu_R xcfa xcfb xcfc xcdd xcsz xany xlra xlrb xlrc xlrp xlrq xlrr xlrs xlrd xwrow xwlen' mdd mn mla mlb mlc msome mlast mlet' mwd) := by
  obtain ⟨hL, hRR, hRW⟩ := hR
  exact ⟨0, 0, 0, rfl, rfl, hL, hRR, 0, by omega, rfl, rfl, fun i h => by omega⟩
