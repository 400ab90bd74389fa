/-! the class's Reader: tokens taken or refused, codes laid -/
def flR (f : Nat → Nat → Int32) (A e p : Nat) : Prop := (f A 11).toInt = (e : Nat) ∧ (f A 12).toInt = (p : Nat)
def okR (f f2_z : Nat → Nat → Int32) (A u : Nat) (c : List Nat) : Prop := (f2_z A 9).toInt = ((u + c.length : Nat) : Int) ∧ (∀ i, i < u → f2_z (A + 8) i = f (A + 8) i) ∧ ∀ i o, c[i]? = some o → (f2_z (A + 8) (u + i)).toInt = (o : Nat)
theorem okR_ap {f f2_z f3_z : Nat → Nat → Int32} {A u : Nat} {c d : List Nat} (h_z : okR f f2_z A u c) (h2 : okR f2_z f3_z A (u + c.length) d) : okR f f3_z A u (c ++ d) := by
  refine ⟨by rw [h2.1, List.length_append, Nat.add_assoc], fun i hi_z => ?_, fun i o ho => ?_⟩
  · rw [h2.2.1 i (by omega), h_z.2.1 i hi_z]
  · rcases Nat.lt_or_ge i c.length with h5 | h5
    · rw [List.getElem?_append_left h5] at ho
      rw [h2.2.1 _ (by omega)]
      exact h_z.2.2 i o ho
    · rw [List.getElem?_append_right h5] at ho
      have h9 := h2.2.2 _ o ho
      rw [show u + c.length + (i - c.length) = u + i by omega] at h9
      exact h9
theorem okR_one {f f2_z : Nat → Nat → Int32} {A u o : Nat} {x : Int32} (h1 : (f2_z A 9).toInt = ((u + 1 : Nat) : Int)) (h2 : f2_z (A + 8) u = x) (h3 : ∀ i, i ≠ u → f2_z (A + 8) i = f (A + 8) i) (hx : x.toInt = (o : Nat)) : okR f f2_z A u [o] := by
  refine ⟨h1, fun i h4 => h3 i (by omega), fun i q hq => ?_⟩
  have h6 : i < 1 := (List.getElem?_eq_some_iff.mp hq).1
  obtain rfl : i = 0 := by omega
  cases hq
  show (f2_z (A + 8) u).toInt = _
  rw [h2]
  exact hx
theorem okR_cg {f f1_z f2_z f3_z : Nat → Nat → Int32} {A u : Nat} {c : List Nat} (h_z : okR f1_z f2_z A u c) (h1 : f1_z (A + 8) = f (A + 8)) (h2 : f3_z (A + 8) = f2_z (A + 8)) (h9 : f3_z A 9 = f2_z A 9) : okR f f3_z A u c := by
  unfold okR at *
  rw [h2, ← h1, h9]
  exact h_z
theorem fcI_ne : ∀ i, i < 17 → ((fcI i).toInt = -1 ↔ fcP i = 8) := by decide +kernel
theorem fcI_eq : ∀ i, i < 17 → fcP i ≠ 8 → (fcI i).toInt = (fcP i : Nat) := by decide +kernel
theorem fcP_a : ∀ i, i < 17 → fcP i < 8 → (fcP i < 6 ↔ ¬ (i = 2 ∨ i = 15)) := by decide +kernel
theorem fcP_9 : ∀ i, i < 17 → fcP i ≤ 8 := by decide +kernel
set_option maxHeartbeats 4000000 in
set_option maxRecDepth 100000 in
theorem s_X5_emit {g : zGT} {w : zW} {f : Nat → Nat → Int32} {j : Nat → Nat → Int64} {A tq nq : Nat} {v : Option Nat} {x : Int32} {u : Nat} {Q : Option Value → zW → Prop} {QX : String → zW → Prop} (G : zGok g) (hr : shRd w A tq nq) (hu : (f A 9).toInt = (u : Nat)) (h9 : u < 900) (hQ : ∀ f2_z, frM A [8] [9] f f2_z → (f2_z A 9).toInt = ((u + 1 : Nat) : Int) → f2_z (A + 8) u = x → (∀ i, i ≠ u → f2_z (A + 8) i = f (A + 8) i) → Q none (zM (wW w A v) f2_z j)) : zC g 1 yX5_emit cX5_emit 2 none [.ref A, .int x] (zM (wW w A v) f j) (0, 0) Q QX := by
  refine zC_of G (by decide +kernel) (Nat.le_of_ble_eq_true rfl) ?_
  refine r_aloadR0 dX5_emit_0 ?_
  refine m_getV (x := (f A 9)) zf_RX5_51 rfl dX5_emit_1 hr.1 (rfl) ?_
  refine t_iflt (t := 39) dX5_emit_4 (by decide) (fun h4 => False.elim (by omega)) (fun h4 => ?_)
  refine r_aloadR0 dX5_emit_7 ?_
  refine m_getV (x := (f A 9)) zf_RX5_51 rfl dX5_emit_8 hr.1 (rfl) ?_
  refine r_aloadR0 dX5_emit_11 ?_
  refine m_getR (q := (A + 8)) zf_RX5_47 rfl dX5_emit_12 hr.1 (shRd_p8 hr) ?_
  refine m_alen dX5_emit_15 (zge hr.2.2.2.2.2.1.1 (by decide)) hr.2.2.2.2.2.1.2 (by first | decide | omega) (fun r15 e15_z => ?_)
  refine t_icge (t := 39) dX5_emit_16 (by decide) (fun h16_z => False.elim (by omega)) (fun h16_z => ?_)
  refine r_aloadR0 dX5_emit_19 ?_
  refine m_getR (q := (A + 8)) zf_RX5_47 rfl dX5_emit_20 hr.1 (shRd_p8 hr) ?_
  refine r_aloadR0 dX5_emit_23 ?_
  refine m_getV (x := (f A 9)) zf_RX5_51 rfl dX5_emit_24 hr.1 (rfl) ?_
  refine r_iload1 dX5_emit_27 ?_
  refine m_iast (k := u) dX5_emit_28 hr.2.2.2.2.2.1.1 hr.2.2.2.2.2.1.2 (by omega) (by omega) ?_
  obtain ⟨g28, hg28⟩ : ∃ g9, g9 = zu f (A + 8) u x := ⟨_, rfl⟩
  rw [← hg28]
  have og28 : frM A [8] [] f g28 := by rw [hg28]; exact frM_zr frM_rf (by decide) (by decide) (by decide)
  have vg28 : g28 (A + 8) u = x := by rw [hg28]; exact zu_at
  have wg28 : ∀ i, i ≠ u → g28 (A + 8) i = f (A + 8) i := by intro i hi_z; rw [hg28]; exact zu_ni hi_z
  have y9 : (g28 A 9).toInt = (u : Nat) := by rw [og28.2.2 9 (by decide)]; exact hu
  refine r_aloadR0 dX5_emit_29 ?_
  refine r_dup dX5_emit_30 rfl ?_
  refine m_getV (x := (g28 A 9)) zf_RX5_51 rfl dX5_emit_31 hr.1 (rfl) ?_
  refine n_iconst dX5_emit_34 (by decide) (fun r34 e34 => ?_)
  refine n_iadd dX5_emit_35 (by omega) (fun r35 e35 => ?_)
  refine m_putI zf_RX5_51 (by intro C T N h_z; cases h_z; rfl) rfl dX5_emit_36 hr.1 ?_
  obtain ⟨g36, hg36⟩ : ∃ g9, g9 = zu g28 A 9 r35 := ⟨_, rfl⟩
  rw [← hg36]
  have og36 : frM A [] [9] g28 g36 := by rw [hg36]; exact frM_zk frM_rf (by decide)
  have vg36 : g36 A 9 = r35 := by rw [hg36]; exact zu_at
  have vt36 : (g36 A 9).toInt = r35.toInt := by rw [vg36]
  refine r_vret dX5_emit_39 rfl (Nat.le_of_ble_eq_true rfl) (Nat.le_of_ble_eq_true rfl) ?_
  exact hQ g36 (frM_tr (frM_su og28 (by decide) (by decide)) (frM_su og36 (by decide) (by decide))) (by rw [vt36]; omega) (by rw [og36.2.1 8 (by decide) (by decide) (by decide)]; exact vg28) (fun i hi_z => by rw [og36.2.1 8 (by decide) (by decide) (by decide)]; exact wg28 i hi_z)
set_option maxHeartbeats 4000000 in
set_option maxRecDepth 100000 in
theorem s_X10_isOfLikesAlone {g : zGT} {w : zW} {f : Nat → Nat → Int32} {j : Nat → Nat → Int64} {ca wa wv : Nat → Nat} {kq ta sm gq gv : Nat} {i : Nat} {Q : Option Value → zW → Prop} {QX : String → zW → Prop} (G : zGok g) (kw : kWd g wa wv kq) (ko : kWo g ca wa wv ta sm gq gv) (hi_z : i < 17) (hQ : ∀ r : Int32, (r.toInt = 1 ∧ (i = 2 ∨ i = 15) ∨ r.toInt = 0 ∧ ¬ (i = 2 ∨ i = 15)) → Q (some (.int r)) (zM w f j)) : zC g 1 yX10_isOfLikesAlone cX10_isOfLikesAlone 1 (some .boolean) [.ref (ca i)] (zM w f j) (0, 0) Q QX := by
  refine zC_of G (by decide +kernel) (Nat.le_of_ble_eq_true rfl) ?_
  have hinj := ko.1
  by_cases h2 : i = 2
  · subst h2
    refine r_aloadR0 dX10_isOfLikesAlone_0 ?_
    refine k_gets (ko.2.1 ("GUEST", 2) (List.mem_of_getElem? (i := 5) rfl)) zg_RX10_12 dX10_isOfLikesAlone_1 ?_
    refine r_aceq (rx := some (ca 2)) (ry := some (ca 2)) (t := 14) dX10_isOfLikesAlone_4 (by decide) (fun h4 => ?_) (fun h4 => False.elim (h4 rfl))
    refine n_iconst dX10_isOfLikesAlone_14 (by decide) (fun r14 e14_z => ?_)
    refine r_goto (t := 19) dX10_isOfLikesAlone_15 (by decide) ?_
    refine m_zret dX10_isOfLikesAlone_19 rfl (by omega) (Nat.le_of_ble_eq_true rfl) (Nat.le_of_ble_eq_true rfl) ?_
    exact hQ _ (Or.inl ⟨by omega, Or.inl rfl⟩)
  by_cases h15 : i = 15
  · subst h15
    refine r_aloadR0 dX10_isOfLikesAlone_0 ?_
    refine k_gets (ko.2.1 ("GUEST", 2) (List.mem_of_getElem? (i := 5) rfl)) zg_RX10_12 dX10_isOfLikesAlone_1 ?_
    refine r_aceq (rx := some (ca 15)) (ry := some (ca 2)) (t := 14) dX10_isOfLikesAlone_4 (by decide) (fun h4 => False.elim (h2 (hinj _ _ hi_z (by decide) (Option.some.inj h4)))) (fun h4 => ?_)
    refine r_aloadR0 dX10_isOfLikesAlone_7 ?_
    refine k_gets (ko.2.1 ("WANT", 15) (List.mem_of_getElem? (i := 6) rfl)) zg_RX10_51 dX10_isOfLikesAlone_8 ?_
    refine r_acne (rx := some (ca 15)) (ry := some (ca 15)) (t := 18) dX10_isOfLikesAlone_11 (by decide) (fun h11 => False.elim (h11 rfl)) (fun h11 => ?_)
    refine n_iconst dX10_isOfLikesAlone_14 (by decide) (fun r14 e14_z => ?_)
    refine r_goto (t := 19) dX10_isOfLikesAlone_15 (by decide) ?_
    refine m_zret dX10_isOfLikesAlone_19 rfl (by omega) (Nat.le_of_ble_eq_true rfl) (Nat.le_of_ble_eq_true rfl) ?_
    exact hQ _ (Or.inl ⟨by omega, Or.inr rfl⟩)
  refine r_aloadR0 dX10_isOfLikesAlone_0 ?_
  refine k_gets (ko.2.1 ("GUEST", 2) (List.mem_of_getElem? (i := 5) rfl)) zg_RX10_12 dX10_isOfLikesAlone_1 ?_
  refine r_aceq (rx := some (ca i)) (ry := some (ca 2)) (t := 14) dX10_isOfLikesAlone_4 (by decide) (fun h4 => False.elim (h2 (hinj _ _ hi_z (by decide) (Option.some.inj h4)))) (fun h4 => ?_)
  refine r_aloadR0 dX10_isOfLikesAlone_7 ?_
  refine k_gets (ko.2.1 ("WANT", 15) (List.mem_of_getElem? (i := 6) rfl)) zg_RX10_51 dX10_isOfLikesAlone_8 ?_
  refine r_acne (rx := some (ca i)) (ry := some (ca 15)) (t := 18) dX10_isOfLikesAlone_11 (by decide) (fun h11 => ?_) (fun h11 => False.elim (h15 (hinj _ _ hi_z (by decide) (Option.some.inj h11))))
  refine n_iconst dX10_isOfLikesAlone_18 (by decide) (fun r18 e18_z => ?_)
  refine m_zret dX10_isOfLikesAlone_19 rfl (by omega) (Nat.le_of_ble_eq_true rfl) (Nat.le_of_ble_eq_true rfl) ?_
  exact hQ _ (Or.inr ⟨by omega, fun h_z => h_z.elim h2 h15⟩)
set_option maxHeartbeats 4000000 in
set_option maxRecDepth 100000 in
theorem s_X5_refuseAs {g : zGT} {w : zW} {f : Nat → Nat → Int32} {j : Nat → Nat → Int64} {A tq nq : Nat} {v : Option Nat} {B : Nat → Nat} {n : Nat} {ca : Nat → Nat} {x : Int32} {s e : Nat} {Q : Option Value → zW → Prop} {QX : String → zW → Prop} (G : zGok g) (hr : shRd w A tq nq) (htk : tkR ca B n f v A s) (hx : x.toInt = (e : Nat)) (hQ : ∀ (r : Int32) f2_z, r.toInt = 0 → frM A [] [11, 12] f f2_z → flR f2_z A e s → Q (some (.int r)) (zM (wW w A v) f2_z j)) : zC g 1 yX5_refuseAs cX5_refuseAs 2 (some .boolean) [.ref A, .int x] (zM (wW w A v) f j) (0, 0) Q QX := by
  refine zC_of G (by decide +kernel) (Nat.le_of_ble_eq_true rfl) ?_
  refine r_aloadR0 dX5_refuseAs_0 ?_
  refine r_iload1 dX5_refuseAs_1 ?_
  refine m_putI zf_RX5_58 (by intro C T N h_z; cases h_z; rfl) rfl dX5_refuseAs_2 hr.1 ?_
  obtain ⟨g2, hg2⟩ : ∃ g9, g9 = zu f A 11 x := ⟨_, rfl⟩
  rw [← hg2]
  have og2 : frM A [] [11] f g2 := by rw [hg2]; exact frM_zk frM_rf (by decide)
  have vg2 : g2 A 11 = x := by rw [hg2]; exact zu_at
  have vt2 : (g2 A 11).toInt = x.toInt := by rw [vg2]
  refine r_aloadR0 dX5_refuseAs_5 ?_
  refine r_aloadR0 dX5_refuseAs_6 ?_
  refine m_getV (x := (g2 A 3)) zf_RX5_22 rfl dX5_refuseAs_7 hr.1 (rfl) ?_
  refine m_putI zf_RX5_61 (by intro C T N h_z; cases h_z; rfl) rfl dX5_refuseAs_10 hr.1 ?_
  obtain ⟨g10, hg10⟩ : ∃ g9, g9 = zu g2 A 12 (g2 A 3) := ⟨_, rfl⟩
  rw [← hg10]
  have og10 : frM A [] [12] g2 g10 := by rw [hg10]; exact frM_zk frM_rf (by decide)
  have vg10 : g10 A 12 = (g2 A 3) := by rw [hg10]; exact zu_at
  have vt10 : (g10 A 12).toInt = (g2 A 3).toInt := by rw [vg10]
  refine n_iconst dX5_refuseAs_13 (by decide) (fun r13 e13_z => ?_)
  refine m_zret dX5_refuseAs_14 rfl (by omega) (Nat.le_of_ble_eq_true rfl) (Nat.le_of_ble_eq_true rfl) ?_
  exact hQ _ g10 e13_z (frM_tr (frM_su og2 (by decide) (by decide)) (frM_su og10 (by decide) (by decide))) ⟨by rw [og10.2.2 11 (by decide), vt2]; exact hx, by rw [vt10, og2.2.2 3 (by decide)]; exact htk.2.2.1⟩
set_option maxHeartbeats 4000000 in
set_option maxRecDepth 100000 in
theorem s_X5_refuseToken {g : zGT} {w : zW} {f : Nat → Nat → Int32} {j : Nat → Nat → Int64} {A tq nq : Nat} {v : Option Nat} {B : Nat → Nat} {n : Nat} {ca : Nat → Nat} {s : Nat} {Q : Option Value → zW → Prop} {QX : String → zW → Prop} (G : zGok g) (hr : shRd w A tq nq) (htk : tkR ca B n f v A s) (hQ : ∀ (r : Int32) f2_z, r.toInt = 0 → frM A [] [11, 12] f f2_z → flR f2_z A (baP B n s) s → Q (some (.int r)) (zM (wW w A v) f2_z j)) : zC g 2 yX5_refuseToken cX5_refuseToken 1 (some .boolean) [.ref A] (zM (wW w A v) f j) (0, 0) Q QX := by
  refine zC_of G (by decide +kernel) (Nat.le_of_ble_eq_true rfl) ?_
  have h4 := htk.2.2.2.1
  by_cases h1 : tkP B n s = 1
  · refine r_aloadR0 dX5_refuseToken_0 ?_
    refine r_aloadR0 dX5_refuseToken_1 ?_
    refine m_getV (x := (f A 4)) zf_RX5_25 rfl dX5_refuseToken_2 hr.1 (rfl) ?_
    refine n_iconst dX5_refuseToken_5 (by decide) (fun r5 e5_z => ?_)
    refine t_icne (t := 13) dX5_refuseToken_6 (by decide) (fun h6 => False.elim (by omega)) (fun h6 => ?_)
    refine n_iconst dX5_refuseToken_9 (by decide) (fun r9 e9_z => ?_)
    refine r_goto (t := 14) dX5_refuseToken_10 (by decide) ?_
    refine q_callV1 zm_RX5_112 dX5_refuseToken_14 hr.1 (by decide) rfl (Nat.le_of_ble_eq_true rfl) (Nat.le_of_ble_eq_true rfl) (Nat.le_of_ble_eq_true rfl) (Nat.le_of_ble_eq_true rfl) (Nat.le_of_ble_eq_true rfl) (s_X5_refuseAs (e := 1) G hr htk e9_z (fun r14 g14 e14_z o14 l14 => ?_))
    refine m_zret dX5_refuseToken_17 rfl (by omega) (Nat.le_of_ble_eq_true rfl) (Nat.le_of_ble_eq_true rfl) ?_
    refine hQ _ _ e14_z o14 ?_
    unfold baP
    rw [if_pos h1]
    exact l14
  · refine r_aloadR0 dX5_refuseToken_0 ?_
    refine r_aloadR0 dX5_refuseToken_1 ?_
    refine m_getV (x := (f A 4)) zf_RX5_25 rfl dX5_refuseToken_2 hr.1 (rfl) ?_
    refine n_iconst dX5_refuseToken_5 (by decide) (fun r5 e5_z => ?_)
    refine t_icne (t := 13) dX5_refuseToken_6 (by decide) (fun h6 => ?_) (fun h6 => False.elim (by omega))
    refine n_iconst dX5_refuseToken_13 (by decide) (fun r13 e13_z => ?_)
    refine q_callV1 zm_RX5_112 dX5_refuseToken_14 hr.1 (by decide) rfl (Nat.le_of_ble_eq_true rfl) (Nat.le_of_ble_eq_true rfl) (Nat.le_of_ble_eq_true rfl) (Nat.le_of_ble_eq_true rfl) (Nat.le_of_ble_eq_true rfl) (s_X5_refuseAs (e := 2) G hr htk e13_z (fun r14 g14 e14_z o14 l14 => ?_))
    refine m_zret dX5_refuseToken_17 rfl (by omega) (Nat.le_of_ble_eq_true rfl) (Nat.le_of_ble_eq_true rfl) ?_
    refine hQ _ _ e14_z o14 ?_
    unfold baP
    rw [if_neg h1]
    exact l14
set_option maxHeartbeats 4000000 in
set_option maxRecDepth 100000 in
theorem s_X5_isWord {g : zGT} {w : zW} {f : Nat → Nat → Int32} {j : Nat → Nat → Int64} {A tq nq : Nat} {v : Option Nat} {B : Nat → Nat} {n : Nat} {ca wa wv : Nat → Nat} {kq ta sm gq gv : Nat} {s i : Nat} {Q : Option Value → zW → Prop} {QX : String → zW → Prop} (G : zGok g) (hr : shRd w A tq nq) (kw : kWd g wa wv kq) (ko : kWo g ca wa wv ta sm gq gv) (hi_z : i < 17) (htk : tkR ca B n f v A s) (hQ : ∀ r : Int32, (r.toInt = 1 ∧ (isWd B n s i = true) ∨ r.toInt = 0 ∧ ¬ (isWd B n s i = true)) → Q (some (.int r)) (zM (wW w A v) f j)) : zC g 1 yX5_isWord cX5_isWord 2 (some .boolean) [.ref A, .ref (ca i)] (zM (wW w A v) f j) (0, 0) Q QX := by
  refine zC_of G (by decide +kernel) (Nat.le_of_ble_eq_true rfl) ?_
  have h4 := htk.2.2.2.1
  by_cases h3 : tkP B n s = 3
  · have hv := htk.2.2.2.2.2.1 h3
    by_cases hw : wdP B n s = i
    · refine r_aloadR0 dX5_isWord_0 ?_
      refine m_getV (x := (f A 4)) zf_RX5_25 rfl dX5_isWord_1 hr.1 (rfl) ?_
      refine n_iconst dX5_isWord_4 (by decide) (fun r4 e4_z => ?_)
      refine t_icne (t := 20) dX5_isWord_5 (by decide) (fun h5 => False.elim (by omega)) (fun h5 => ?_)
      refine r_aloadR0 dX5_isWord_8 ?_
      refine m_getR (q := (ca (wdP B n s))) zf_RX5_37 rfl dX5_isWord_9 hr.1 (zu_at.trans hv) ?_
      refine r_aloadR1 dX5_isWord_12 ?_
      refine r_acne (rx := some (ca (wdP B n s))) (ry := some (ca i)) (t := 20) dX5_isWord_13 (by decide) (fun h13 => False.elim (h13 (by rw [hw]))) (fun h13 => ?_)
      refine n_iconst dX5_isWord_16 (by decide) (fun r16 e16_z => ?_)
      refine r_goto (t := 21) dX5_isWord_17 (by decide) ?_
      refine m_zret dX5_isWord_21 rfl (by omega) (Nat.le_of_ble_eq_true rfl) (Nat.le_of_ble_eq_true rfl) ?_
      exact hQ _ (Or.inl ⟨by omega, decide_eq_true ⟨h3, hw⟩⟩)
    · refine r_aloadR0 dX5_isWord_0 ?_
      refine m_getV (x := (f A 4)) zf_RX5_25 rfl dX5_isWord_1 hr.1 (rfl) ?_
      refine n_iconst dX5_isWord_4 (by decide) (fun r4 e4_z => ?_)
      refine t_icne (t := 20) dX5_isWord_5 (by decide) (fun h5 => False.elim (by omega)) (fun h5 => ?_)
      refine r_aloadR0 dX5_isWord_8 ?_
      refine m_getR (q := (ca (wdP B n s))) zf_RX5_37 rfl dX5_isWord_9 hr.1 (zu_at.trans hv) ?_
      refine r_aloadR1 dX5_isWord_12 ?_
      refine r_acne (rx := some (ca (wdP B n s))) (ry := some (ca i)) (t := 20) dX5_isWord_13 (by decide) (fun h13 => ?_) (fun h13 => False.elim (hw (ko.1 _ _ (Nat.lt_succ_of_le wd_le) hi_z (Option.some.inj h13))))
      refine n_iconst dX5_isWord_20 (by decide) (fun r20 e20 => ?_)
      refine m_zret dX5_isWord_21 rfl (by omega) (Nat.le_of_ble_eq_true rfl) (Nat.le_of_ble_eq_true rfl) ?_
      exact hQ _ (Or.inr ⟨by omega, fun h_z => hw (isWd_tk h_z).2⟩)
  · refine r_aloadR0 dX5_isWord_0 ?_
    refine m_getV (x := (f A 4)) zf_RX5_25 rfl dX5_isWord_1 hr.1 (rfl) ?_
    refine n_iconst dX5_isWord_4 (by decide) (fun r4 e4_z => ?_)
    refine t_icne (t := 20) dX5_isWord_5 (by decide) (fun h5 => ?_) (fun h5 => False.elim (by omega))
    refine n_iconst dX5_isWord_20 (by decide) (fun r20 e20 => ?_)
    refine m_zret dX5_isWord_21 rfl (by omega) (Nat.le_of_ble_eq_true rfl) (Nat.le_of_ble_eq_true rfl) ?_
    exact hQ _ (Or.inr ⟨by omega, fun h_z => h3 (isWd_tk h_z).1⟩)
set_option maxHeartbeats 4000000 in
set_option maxRecDepth 100000 in
theorem s_X5_takeWord {g : zGT} {w : zW} {f : Nat → Nat → Int32} {j : Nat → Nat → Int64} {A tq nq : Nat} {v : Option Nat} {B : Nat → Nat} {n : Nat} {ca wa wv : Nat → Nat} {kq ta sm gq gv : Nat} {s i : Nat} {Q : Option Value → zW → Prop} {QX : String → zW → Prop} (G : zGok g) (hr : shRd w A tq nq) (kw : kWd g wa wv kq) (ko : kWo g ca wa wv ta sm gq gv) (htp : tpR B n f A tq) (hi_z : i < 17) (htk : tkR ca B n f v A s) (hQ : ∀ (r : Int32) v2 f2_z, frM A [] [2, 3, 4, 5, 11, 12] f f2_z → (isWd B n s i = true → r.toInt = 1 ∧ tkR ca B n f2_z v2 A (nxP B n s)) → (¬ (isWd B n s i = true) → r.toInt = 0 ∧ flR f2_z A (baP B n s) s) → Q (some (.int r)) (zM (wW w A v2) f2_z j)) : zC g 8 yX5_takeWord cX5_takeWord 2 (some .boolean) [.ref A, .ref (ca i)] (zM (wW w A v) f j) (0, 0) Q QX := by
  refine zC_of G (by decide +kernel) (Nat.le_of_ble_eq_true rfl) ?_
  by_cases hw : isWd B n s i = true
  · refine r_aloadR0 dX5_takeWord_0 ?_
    refine r_aloadR1 dX5_takeWord_1 ?_
    refine q_callV1 zm_RX5_170 dX5_takeWord_2 hr.1 (by decide) rfl (Nat.le_of_ble_eq_true rfl) (Nat.le_of_ble_eq_true rfl) (Nat.le_of_ble_eq_true rfl) (Nat.le_of_ble_eq_true rfl) (Nat.le_of_ble_eq_true rfl) (s_X5_isWord G hr kw ko hi_z htk (fun r2 e2_z => ?_))
    refine t_ifne (t := 13) dX5_takeWord_5 (by decide) (fun h5 => ?_) (fun h5 => False.elim (e2_z.elim (fun h_z => by omega) (fun h_z => h_z.2 hw)))
    refine r_aloadR0 dX5_takeWord_13 ?_
    refine q_callV0 zm_RX5_73 dX5_takeWord_14 hr.1 (by decide) rfl (Nat.le_of_ble_eq_true rfl) (Nat.le_of_ble_eq_true rfl) (Nat.le_of_ble_eq_true rfl) (Nat.le_of_ble_eq_true rfl) (Nat.le_of_ble_eq_true rfl) (s_X5_next (p := teP B n s) G hr kw ko htp htk.2.1 (teP_le htk.1) htk.2.2.2.2.2.2 (fun v14 g14 o14 t14 => ?_))
    refine n_iconst dX5_takeWord_17 (by decide) (fun r17 e17_z => ?_)
    refine m_zret dX5_takeWord_18 rfl (by omega) (Nat.le_of_ble_eq_true rfl) (Nat.le_of_ble_eq_true rfl) ?_
    exact hQ _ _ g14 (frM_su o14 (by decide) (by decide)) (fun _ => ⟨e17_z, t14⟩) (fun h_z => absurd hw h_z)
  · refine r_aloadR0 dX5_takeWord_0 ?_
    refine r_aloadR1 dX5_takeWord_1 ?_
    refine q_callV1 zm_RX5_170 dX5_takeWord_2 hr.1 (by decide) rfl (Nat.le_of_ble_eq_true rfl) (Nat.le_of_ble_eq_true rfl) (Nat.le_of_ble_eq_true rfl) (Nat.le_of_ble_eq_true rfl) (Nat.le_of_ble_eq_true rfl) (s_X5_isWord G hr kw ko hi_z htk (fun r2 e2_z => ?_))
    refine t_ifne (t := 13) dX5_takeWord_5 (by decide) (fun h5 => False.elim (e2_z.elim (fun h_z => hw h_z.2) (fun h_z => by omega))) (fun h5 => ?_)
    refine r_aloadR0 dX5_takeWord_8 ?_
    refine q_callV0 zm_RX5_80 dX5_takeWord_9 hr.1 (by decide) rfl (Nat.le_of_ble_eq_true rfl) (Nat.le_of_ble_eq_true rfl) (Nat.le_of_ble_eq_true rfl) (Nat.le_of_ble_eq_true rfl) (Nat.le_of_ble_eq_true rfl) (s_X5_refuseToken G hr htk (fun r9 g9 e9_z o9 l9 => ?_))
    refine m_zret dX5_takeWord_12 rfl (by omega) (Nat.le_of_ble_eq_true rfl) (Nat.le_of_ble_eq_true rfl) ?_
    exact hQ _ _ g9 (frM_su o9 (by decide) (by decide)) (fun h_z => absurd h_z hw) (fun _ => ⟨e9_z, l9⟩)
set_option maxHeartbeats 4000000 in
set_option maxRecDepth 100000 in
theorem s_X5_takeSign {g : zGT} {w : zW} {f : Nat → Nat → Int32} {j : Nat → Nat → Int64} {A tq nq : Nat} {v : Option Nat} {B : Nat → Nat} {n : Nat} {ca wa wv : Nat → Nat} {kq ta sm gq gv : Nat} {s c : Nat} {x : Int32} {Q : Option Value → zW → Prop} {QX : String → zW → Prop} (G : zGok g) (hr : shRd w A tq nq) (kw : kWd g wa wv kq) (ko : kWo g ca wa wv ta sm gq gv) (htp : tpR B n f A tq) (hx : x.toInt = (c : Nat)) (htk : tkR ca B n f v A s) (hQ : ∀ (r : Int32) v2 f2_z, frM A [] [2, 3, 4, 5, 11, 12] f f2_z → (tkP B n s = c → r.toInt = 1 ∧ tkR ca B n f2_z v2 A (nxP B n s)) → (¬ (tkP B n s = c) → r.toInt = 0 ∧ flR f2_z A (baP B n s) s) → Q (some (.int r)) (zM (wW w A v2) f2_z j)) : zC g 8 yX5_takeSign cX5_takeSign 2 (some .boolean) [.ref A, .int x] (zM (wW w A v) f j) (0, 0) Q QX := by
  refine zC_of G (by decide +kernel) (Nat.le_of_ble_eq_true rfl) ?_
  have h4 := htk.2.2.2.1
  by_cases hw : tkP B n s = c
  · refine r_aloadR0 dX5_takeSign_0 ?_
    refine m_getV (x := (f A 4)) zf_RX5_25 rfl dX5_takeSign_1 hr.1 (rfl) ?_
    refine r_iload1 dX5_takeSign_4 ?_
    refine t_iceq (t := 13) dX5_takeSign_5 (by decide) (fun h5 => ?_) (fun h5 => False.elim (by omega))
    refine r_aloadR0 dX5_takeSign_13 ?_
    refine q_callV0 zm_RX5_73 dX5_takeSign_14 hr.1 (by decide) rfl (Nat.le_of_ble_eq_true rfl) (Nat.le_of_ble_eq_true rfl) (Nat.le_of_ble_eq_true rfl) (Nat.le_of_ble_eq_true rfl) (Nat.le_of_ble_eq_true rfl) (s_X5_next (p := teP B n s) G hr kw ko htp htk.2.1 (teP_le htk.1) htk.2.2.2.2.2.2 (fun v14 g14 o14 t14 => ?_))
    refine n_iconst dX5_takeSign_17 (by decide) (fun r17 e17_z => ?_)
    refine m_zret dX5_takeSign_18 rfl (by omega) (Nat.le_of_ble_eq_true rfl) (Nat.le_of_ble_eq_true rfl) ?_
    exact hQ _ _ g14 (frM_su o14 (by decide) (by decide)) (fun _ => ⟨e17_z, t14⟩) (fun h_z => absurd hw h_z)
  · refine r_aloadR0 dX5_takeSign_0 ?_
    refine m_getV (x := (f A 4)) zf_RX5_25 rfl dX5_takeSign_1 hr.1 (rfl) ?_
    refine r_iload1 dX5_takeSign_4 ?_
    refine t_iceq (t := 13) dX5_takeSign_5 (by decide) (fun h5 => False.elim (by omega)) (fun h5 => ?_)
    refine r_aloadR0 dX5_takeSign_8 ?_
    refine q_callV0 zm_RX5_80 dX5_takeSign_9 hr.1 (by decide) rfl (Nat.le_of_ble_eq_true rfl) (Nat.le_of_ble_eq_true rfl) (Nat.le_of_ble_eq_true rfl) (Nat.le_of_ble_eq_true rfl) (Nat.le_of_ble_eq_true rfl) (s_X5_refuseToken G hr htk (fun r9 g9 e9_z o9 l9 => ?_))
    refine m_zret dX5_takeSign_12 rfl (by omega) (Nat.le_of_ble_eq_true rfl) (Nat.le_of_ble_eq_true rfl) ?_
    exact hQ _ _ g9 (frM_su o9 (by decide) (by decide)) (fun h_z => absurd h_z hw) (fun _ => ⟨e9_z, l9⟩)
set_option maxHeartbeats 4000000 in
set_option maxRecDepth 100000 in
theorem s_X5_goDeeper {g : zGT} {w : zW} {f : Nat → Nat → Int32} {j : Nat → Nat → Int64} {A tq nq : Nat} {v : Option Nat} {B : Nat → Nat} {n : Nat} {ca wa wv : Nat → Nat} {kq ta sm gq gv : Nat} {s d : Nat} {x : Int32} {Q : Option Value → zW → Prop} {QX : String → zW → Prop} (G : zGok g) (hr : shRd w A tq nq) (kw : kWd g wa wv kq) (ko : kWo g ca wa wv ta sm gq gv) (htp : tpR B n f A tq) (hx : x.toInt = (d : Nat)) (htk : tkR ca B n f v A s) (hQ : ∀ (r : Int32) v2 f2_z, frM A [] [2, 3, 4, 5, 11, 12] f f2_z → (d < 6 → r.toInt = 1 ∧ tkR ca B n f2_z v2 A (nxP B n s)) → (6 ≤ d → r.toInt = 0 ∧ flR f2_z A 4 s) → Q (some (.int r)) (zM (wW w A v2) f2_z j)) : zC g 8 yX5_goDeeper cX5_goDeeper 2 (some .boolean) [.ref A, .int x] (zM (wW w A v) f j) (0, 0) Q QX := by
  refine zC_of G (by decide +kernel) (Nat.le_of_ble_eq_true rfl) ?_
  rcases Nat.lt_or_ge d 6 with hd_z | hd_z
  · refine r_iload1 dX5_goDeeper_0 ?_
    refine n_bipush dX5_goDeeper_1 (by decide) (fun r1 e1_z => ?_)
    refine t_iclt (t := 12) dX5_goDeeper_3 (by decide) (fun h3 => ?_) (fun h3 => False.elim (by omega))
    refine r_aloadR0 dX5_goDeeper_12 ?_
    refine q_callV0 zm_RX5_73 dX5_goDeeper_13 hr.1 (by decide) rfl (Nat.le_of_ble_eq_true rfl) (Nat.le_of_ble_eq_true rfl) (Nat.le_of_ble_eq_true rfl) (Nat.le_of_ble_eq_true rfl) (Nat.le_of_ble_eq_true rfl) (s_X5_next (p := teP B n s) G hr kw ko htp htk.2.1 (teP_le htk.1) htk.2.2.2.2.2.2 (fun v13 g13 o13 t13 => ?_))
    refine n_iconst dX5_goDeeper_16 (by decide) (fun r16 e16_z => ?_)
    refine m_zret dX5_goDeeper_17 rfl (by omega) (Nat.le_of_ble_eq_true rfl) (Nat.le_of_ble_eq_true rfl) ?_
    exact hQ _ _ g13 (frM_su o13 (by decide) (by decide)) (fun _ => ⟨e16_z, t13⟩) (fun h_z => absurd h_z (by omega))
  · refine r_iload1 dX5_goDeeper_0 ?_
    refine n_bipush dX5_goDeeper_1 (by decide) (fun r1 e1_z => ?_)
    refine t_iclt (t := 12) dX5_goDeeper_3 (by decide) (fun h3 => False.elim (by omega)) (fun h3 => ?_)
    refine r_aloadR0 dX5_goDeeper_6 ?_
    refine n_iconst dX5_goDeeper_7 (by decide) (fun r7 e7_z => ?_)
    refine q_callV1 zm_RX5_112 dX5_goDeeper_8 hr.1 (by decide) rfl (Nat.le_of_ble_eq_true rfl) (Nat.le_of_ble_eq_true rfl) (Nat.le_of_ble_eq_true rfl) (Nat.le_of_ble_eq_true rfl) (Nat.le_of_ble_eq_true rfl) (s_X5_refuseAs (e := 4) G hr htk e7_z (fun r8 g8 e8 o8 l8 => ?_))
    refine m_zret dX5_goDeeper_11 rfl (by omega) (Nat.le_of_ble_eq_true rfl) (Nat.le_of_ble_eq_true rfl) ?_
    exact hQ _ _ g8 (frM_su o8 (by decide) (by decide)) (fun h_z => absurd h_z (by omega)) (fun _ => ⟨e8, l8⟩)
set_option maxHeartbeats 4000000 in
set_option maxRecDepth 100000 in
theorem s_X5_takeNumber {g : zGT} {w : zW} {f : Nat → Nat → Int32} {j : Nat → Nat → Int64} {A tq nq : Nat} {v : Option Nat} {B : Nat → Nat} {n : Nat} {ca wa wv : Nat → Nat} {kq ta sm gq gv : Nat} {s h_z : Nat} {x : Int32} {Q : Option Value → zW → Prop} {QX : String → zW → Prop} (G : zGok g) (hr : shRd w A tq nq) (kw : kWd g wa wv kq) (ko : kWo g ca wa wv ta sm gq gv) (htp : tpR B n f A tq) (hx : x.toInt = (h_z : Nat)) (htk : tkR ca B n f v A s) (hQ : ∀ (r : Int32) v2 f2_z, frM A [] [2, 3, 4, 5, 11, 12] f f2_z → ((nuH B n h_z s).1 = 0 → r.toInt = ((nuH B n h_z s).2.2 : Nat) ∧ tkR ca B n f2_z v2 A (nuH B n h_z s).2.1) → ((nuH B n h_z s).1 ≠ 0 → r.toInt = -1 ∧ flR f2_z A (nuH B n h_z s).1 (nuH B n h_z s).2.1) → Q (some (.int r)) (zM (wW w A v2) f2_z j)) : zC g 8 yX5_takeNumber cX5_takeNumber 3 (some .int) [.ref A, .int x] (zM (wW w A v) f j) (0, 0) Q QX := by
  refine zC_of G (by decide +kernel) (Nat.le_of_ble_eq_true rfl) ?_
  have h4 := htk.2.2.2.1
  by_cases h1 : tkP B n s = 2
  · have hn5 := htk.2.2.2.2.1 h1
    by_cases h2 : h_z < nmP B n s
    · have hv : nuH B n h_z s = (3, s, 0) := by unfold nuH; rw [if_pos h1, if_pos h2]
      rw [hv] at hQ
      refine r_aloadR0 dX5_takeNumber_0 ?_
      refine m_getV (x := (f A 4)) zf_RX5_25 rfl dX5_takeNumber_1 hr.1 (rfl) ?_
      refine n_iconst dX5_takeNumber_4 (by decide) (fun r4 e4_z => ?_)
      refine t_iceq (t := 15) dX5_takeNumber_5 (by decide) (fun h5 => ?_) (fun h5 => False.elim (by omega))
      refine r_aloadR0 dX5_takeNumber_15 ?_
      refine m_getV (x := (f A 5)) zf_RX5_28 rfl dX5_takeNumber_16 hr.1 (rfl) ?_
      refine r_iload1 dX5_takeNumber_19 ?_
      refine t_icle (t := 31) dX5_takeNumber_20 (by decide) (fun h20 => False.elim (by omega)) (fun h20 => ?_)
      refine r_aloadR0 dX5_takeNumber_23 ?_
      refine n_iconst dX5_takeNumber_24 (by decide) (fun r24 e24_z => ?_)
      refine q_callV1 zm_RX5_112 dX5_takeNumber_25 hr.1 (by decide) rfl (Nat.le_of_ble_eq_true rfl) (Nat.le_of_ble_eq_true rfl) (Nat.le_of_ble_eq_true rfl) (Nat.le_of_ble_eq_true rfl) (Nat.le_of_ble_eq_true rfl) (s_X5_refuseAs (e := 3) G hr htk e24_z (fun r25 g25 e25_z o25 l25 => ?_))
      refine r_pop dX5_takeNumber_28 rfl ?_
      refine n_iconst dX5_takeNumber_29 (by decide) (fun r29 e29 => ?_)
      refine r_iret dX5_takeNumber_30 rfl (Nat.le_of_ble_eq_true rfl) (Nat.le_of_ble_eq_true rfl) ?_
      exact hQ _ _ g25 (frM_su o25 (by decide) (by decide)) (fun h_z => absurd (show (3 : Nat) = 0 from h_z) (by decide)) (fun _ => ⟨e29, l25⟩)
    · have hv : nuH B n h_z s = (0, nxP B n s, nmP B n s) := by unfold nuH; rw [if_pos h1, if_neg h2]
      rw [hv] at hQ
      refine r_aloadR0 dX5_takeNumber_0 ?_
      refine m_getV (x := (f A 4)) zf_RX5_25 rfl dX5_takeNumber_1 hr.1 (rfl) ?_
      refine n_iconst dX5_takeNumber_4 (by decide) (fun r4 e4_z => ?_)
      refine t_iceq (t := 15) dX5_takeNumber_5 (by decide) (fun h5 => ?_) (fun h5 => False.elim (by omega))
      refine r_aloadR0 dX5_takeNumber_15 ?_
      refine m_getV (x := (f A 5)) zf_RX5_28 rfl dX5_takeNumber_16 hr.1 (rfl) ?_
      refine r_iload1 dX5_takeNumber_19 ?_
      refine t_icle (t := 31) dX5_takeNumber_20 (by decide) (fun h20 => ?_) (fun h20 => False.elim (by omega))
      refine r_aloadR0 dX5_takeNumber_31 ?_
      refine m_getV (x := (f A 5)) zf_RX5_28 rfl dX5_takeNumber_32 hr.1 (rfl) ?_
      refine r_istore2 dX5_takeNumber_35 rfl ?_
      refine r_aloadR0 dX5_takeNumber_36 ?_
      refine q_callV0 zm_RX5_73 dX5_takeNumber_37 hr.1 (by decide) rfl (Nat.le_of_ble_eq_true rfl) (Nat.le_of_ble_eq_true rfl) (Nat.le_of_ble_eq_true rfl) (Nat.le_of_ble_eq_true rfl) (Nat.le_of_ble_eq_true rfl) (s_X5_next (p := teP B n s) G hr kw ko htp htk.2.1 (teP_le htk.1) htk.2.2.2.2.2.2 (fun v37 g37 o37 t37 => ?_))
      refine r_iload2 dX5_takeNumber_40 ?_
      refine r_iret dX5_takeNumber_41 rfl (Nat.le_of_ble_eq_true rfl) (Nat.le_of_ble_eq_true rfl) ?_
      exact hQ _ _ g37 (frM_su o37 (by decide) (by decide)) (fun _ => ⟨hn5, t37⟩) (fun h_z => absurd rfl h_z)
  · have hba := ba_bd (B := B) (n := n) (s := s)
    have hv : nuH B n h_z s = (baP B n s, s, 0) := by unfold nuH; rw [if_neg h1]
    rw [hv] at hQ
    refine r_aloadR0 dX5_takeNumber_0 ?_
    refine m_getV (x := (f A 4)) zf_RX5_25 rfl dX5_takeNumber_1 hr.1 (rfl) ?_
    refine n_iconst dX5_takeNumber_4 (by decide) (fun r4 e4_z => ?_)
    refine t_iceq (t := 15) dX5_takeNumber_5 (by decide) (fun h5 => False.elim (by omega)) (fun h5 => ?_)
    refine r_aloadR0 dX5_takeNumber_8 ?_
    refine q_callV0 zm_RX5_80 dX5_takeNumber_9 hr.1 (by decide) rfl (Nat.le_of_ble_eq_true rfl) (Nat.le_of_ble_eq_true rfl) (Nat.le_of_ble_eq_true rfl) (Nat.le_of_ble_eq_true rfl) (Nat.le_of_ble_eq_true rfl) (s_X5_refuseToken G hr htk (fun r9 g9 e9_z o9 l9 => ?_))
    refine r_pop dX5_takeNumber_12 rfl ?_
    refine n_iconst dX5_takeNumber_13 (by decide) (fun r13 e13_z => ?_)
    refine r_iret dX5_takeNumber_14 rfl (Nat.le_of_ble_eq_true rfl) (Nat.le_of_ble_eq_true rfl) ?_
    exact hQ _ _ g9 (frM_su o9 (by decide) (by decide)) (fun h_z => absurd h_z hba.1) (fun _ => ⟨e13_z, l9⟩)
set_option maxHeartbeats 4000000 in
set_option maxRecDepth 100000 in
theorem s_X5_comparing {g : zGT} {w : zW} {f : Nat → Nat → Int32} {j : Nat → Nat → Int64} {A tq nq : Nat} {v : Option Nat} {B : Nat → Nat} {n : Nat} {ca : Nat → Nat} {s : Nat} {Q : Option Value → zW → Prop} {QX : String → zW → Prop} (G : zGok g) (hr : shRd w A tq nq) (htk : tkR ca B n f v A s) (hQ : ∀ r : Int32, (opC B n s = 0 → r.toInt = -1) → (opC B n s ≠ 0 → r.toInt = (opC B n s : Nat)) → Q (some (.int r)) (zM (wW w A v) f j)) : zC g 1 yX5_comparing cX5_comparing 1 (some .int) [.ref A] (zM (wW w A v) f j) (0, 0) Q QX := by
  refine zC_of G (by decide +kernel) (Nat.le_of_ble_eq_true rfl) ?_
  have h4 := htk.2.2.2.1
  by_cases hc_z : tkP B n s = 61
  · have hop : opC B n s = 2006 := if_pos hc_z
    rw [hop] at hQ
    refine r_aloadR0 dX5_comparing_0 ?_
    refine m_getV (x := (f A 4)) zf_RX5_25 rfl dX5_comparing_1 hr.1 (rfl) ?_
    refine n_tabC (k := 61) (t := 32) dX5_comparing_4 (by decide) rfl (by decide) (fun h4 => ?_) (fun h4 => False.elim (h4 (by omega)))
    refine n_sipush dX5_comparing_32 (by decide) (fun r32 e32 => ?_)
    refine r_iret dX5_comparing_35 rfl (Nat.le_of_ble_eq_true rfl) (Nat.le_of_ble_eq_true rfl) ?_
    exact hQ _ (fun h_z => absurd h_z (by decide)) (fun _ => by omega)
  have hn61 := hc_z
  clear hc_z
  by_cases hc_z : tkP B n s = 60
  · have hop : opC B n s = 2007 := (if_neg (by omega)).trans (if_pos hc_z)
    rw [hop] at hQ
    refine r_aloadR0 dX5_comparing_0 ?_
    refine m_getV (x := (f A 4)) zf_RX5_25 rfl dX5_comparing_1 hr.1 (rfl) ?_
    refine n_tabC (k := 60) (t := 36) dX5_comparing_4 (by decide) rfl (by decide) (fun h4 => ?_) (fun h4 => False.elim (h4 (by omega)))
    refine n_sipush dX5_comparing_36 (by decide) (fun r36 e36 => ?_)
    refine r_iret dX5_comparing_39 rfl (Nat.le_of_ble_eq_true rfl) (Nat.le_of_ble_eq_true rfl) ?_
    exact hQ _ (fun h_z => absurd h_z (by decide)) (fun _ => by omega)
  have hn60 := hc_z
  clear hc_z
  by_cases hc_z : tkP B n s = 62
  · have hop : opC B n s = 2008 := (if_neg (by omega)).trans ((if_neg (by omega)).trans (if_pos hc_z))
    rw [hop] at hQ
    refine r_aloadR0 dX5_comparing_0 ?_
    refine m_getV (x := (f A 4)) zf_RX5_25 rfl dX5_comparing_1 hr.1 (rfl) ?_
    refine n_tabC (k := 62) (t := 40) dX5_comparing_4 (by decide) rfl (by decide) (fun h4 => ?_) (fun h4 => False.elim (h4 (by omega)))
    refine n_sipush dX5_comparing_40 (by decide) (fun r40 e40 => ?_)
    refine r_iret dX5_comparing_43 rfl (Nat.le_of_ble_eq_true rfl) (Nat.le_of_ble_eq_true rfl) ?_
    exact hQ _ (fun h_z => absurd h_z (by decide)) (fun _ => by omega)
  have hn62 := hc_z
  clear hc_z
  have hop : opC B n s = 0 := (if_neg hn61).trans ((if_neg hn60).trans (if_neg hn62))
  rw [hop] at hQ
  refine r_aloadR0 dX5_comparing_0 ?_
  refine m_getV (x := (f A 4)) zf_RX5_25 rfl dX5_comparing_1 hr.1 (rfl) ?_
  refine n_tabD (t := 44) dX5_comparing_4 (by decide) (by omega) ?_
  refine n_iconst dX5_comparing_44 (by decide) (fun r44 e44 => ?_)
  refine r_iret dX5_comparing_45 rfl (Nat.le_of_ble_eq_true rfl) (Nat.le_of_ble_eq_true rfl) ?_
  exact hQ _ (fun _ => by omega) (fun h_z => absurd rfl h_z)
