/-! the reference: what is asked of how it lies now -/
theorem s_X12_wor {g : zGT} {w : zW} {f : Nat → Nat → Int32} {j : Nat → Nat → Int64} {A : Nat} {T : zTb} {d : Nat} {x : Int32} {L : zLy}  {Q : Option Value → zW → Prop} {QX : String → zW → Prop} (G : zGok g) (hs : shM w A) (hk : ctKn (f (A + 1)) T) (hw : wfT T) (hx : x.toInt = (d : Nat)) (hd_z : d < 11) (hLi : ctLi (f (A + 6)) d L) (hr : rch (tbC T) L)  (hQ : ∀ (r : Int32) f2_z, r.toInt = worV T L d → frM A [8, 9] [] f f2_z → Q (some (.int r)) (zM w f2_z j)) : zC g 6 yX12_worthAt cX12_worthAt 2 (some .int) [.ref A, .int x] (zM w f j) (0, 0) Q QX :=
  s_X12_worthAt G hs hk.1.2.1 (fun c hc_z => hk.2.1.2.2 c hc_z) hw.2.2.2.2.2.2.2.1.2.2 hx hd_z hLi hr hk.1.2.2.2.1 hk.2.2.2.2.1 hw.2.2.2.2.1 hQ
theorem s_X12_hol {g : zGT} {w : zW} {f : Nat → Nat → Int32} {j : Nat → Nat → Int64} {A : Nat} {T : zTb} {d : Nat} {x : Int32} {L : zLy}  {Q : Option Value → zW → Prop} {QX : String → zW → Prop} (G : zGok g) (hs : shM w A) (hk : ctKn (f (A + 1)) T) (hw : wfT T) (hx : x.toInt = (d : Nat)) (hd_z : d < 11) (hLi : ctLi (f (A + 6)) d L) (hr : rch (tbC T) L)  (hQ : ∀ (r : Int32) f2_z, (r.toInt = 1 ∧ holV T L d ≠ 0 ∨ r.toInt = 0 ∧ holV T L d = 0) → frM A [8, 9] [] f f2_z → Q (some (.int r)) (zM w f2_z j)) : zC g 6 yX12_holdsAt cX12_holdsAt 2 (some .boolean) [.ref A, .int x] (zM w f j) (0, 0) Q QX :=
  s_X12_holdsAt G hs hk.1.2.1 (fun c hc_z => hk.2.1.2.2 c hc_z) hw.2.2.2.2.2.2.2.1.2.2 hx hd_z hLi hr hk.1.2.2.2.2.1 hk.2.2.2.2.2.1 hw.2.2.2.2.2.1 hQ
theorem tb_want {T : zTb} {K : Nat → Int32} {gu : Nat} (hk : ctKn K T) (hw : wfT T) (hg : gu < tbG T) : (K (25 + gu)).toInt = ((T.1.2.2.getD gu 0 : Nat) : Int) ∧ T.1.2.2.getD gu 0 ≤ 99 := by
  have h1 : T.1.2.2[gu]? = some T.1.2.2[gu] := List.getElem?_eq_getElem hg
  have h2 : T.1.2.2.getD gu 0 = T.1.2.2[gu] := by rw [List.getD_eq_getElem?_getD, h1]; rfl
  rw [h2]
  exact ⟨hk.2.2.1 gu _ h1, hw.2.2.2.1 _ (List.getElem_mem hg)⟩
theorem s_X12_lik {g : zGT} {w : zW} {f : Nat → Nat → Int32} {j : Nat → Nat → Int64} {A : Nat} {T : zTb} {d : Nat} {x : Int32} {L : zLy} {gu : Nat} {y : Int32} {Q : Option Value → zW → Prop} {QX : String → zW → Prop} (G : zGok g) (hs : shM w A) (hk : ctKn (f (A + 1)) T) (hw : wfT T) (hx : x.toInt = (d : Nat)) (hd_z : d < 11) (hLi : ctLi (f (A + 6)) d L) (hr : rch (tbC T) L) (hy : y.toInt = (gu : Nat)) (hg : gu < tbG T) (hQ : ∀ (r : Int32) f2_z, r.toInt = likV T L d gu → frM A [8, 9] [] f f2_z → Q (some (.int r)) (zM w f2_z j)) : zC g 6 yX12_likesAt cX12_likesAt 3 (some .int) [.ref A, .int x, .int y] (zM w f j) (0, 0) Q QX :=
  s_X12_likesAt (v := T.1.2.2.getD gu 0) G hs hk.1.2.1 (fun c hc_z => hk.2.1.2.2 c hc_z) hw.2.2.2.2.2.2.2.1.2.2 hx hd_z hLi hr hk.1.2.2.2.2.2.1 hk.2.2.2.2.2.2 hw.2.2.2.2.2.2.1 hy (by have := hw.2.2.1; omega) (tb_want hk hw hg).1 (tb_want hk hw hg).2 hQ
set_option maxHeartbeats 4000000 in
set_option maxRecDepth 100000 in
theorem s_X12_isColumn {g : zGT} {w : zW} {f : Nat → Nat → Int32} {j : Nat → Nat → Int64} {A : Nat} {T : zTb} {x : Int32} {Q : Option Value → zW → Prop} {QX : String → zW → Prop} (G : zGok g) (hs : shM w A) (hk : ctKn (f (A + 1)) T) (hw : wfT T) (hQ : ∀ (r : Int32) f2_z, (r.toInt = 1 ∧ (0 ≤ x.toInt ∧ x.toInt < ((tbL T).length : Nat)) ∨ r.toInt = 0 ∧ ¬ (0 ≤ x.toInt ∧ x.toInt < ((tbL T).length : Nat))) → frM A [6] [] f f2_z → ctLi (f2_z (A + 6)) T.2.2.1.2.length (tbL T) → Q (some (.int r)) (zM w f2_z j)) : zC g 5 yX12_isColumn cX12_isColumn 2 (some .boolean) [.ref A, .int x] (zM w f j) (0, 0) Q QX := by
  refine zC_of G (by decide +kernel) (Nat.le_of_ble_eq_true rfl) ?_
  have hk9 := hk
  obtain ⟨⟨k0_z, k1_z, k2_z, k3_z, k4_z, k5_z, k6_z⟩, km, kg, kp, kl1, kl2, kl3⟩ := hk9
  have km9 := km
  obtain ⟨m1_z, m2_z, m3_z⟩ := km9
  have hn6 : tbC T ≤ 6 := hw.2.1
  have hg4 : tbG T ≤ 4 := hw.2.2.1
  have hwm := hw.2.2.2.2.2.2.2.1
  have hml : T.2.2.1.2.length ≤ 5 := hwm.2.1
  have hm99 := hwm.2.2
  have hrt := wfT_rch hw
  have hLl : (tbL T).length ≤ 6 := Nat.le_trans (rch_cell hrt).2.2.2.2 hn6
  have hpl : T.2.2.2.length ≤ 10 := hw.2.2.2.2.2.2.2.2.1
  refine r_iload1 dX12_isColumn_0 ?_
  refine n_i2l dX12_isColumn_1 (fun r1 e1_z => ?_)
  refine n_lconst (q := 0) dX12_isColumn_2 rfl (by decide) (fun r2 e2_z => ?_)
  refine r_aloadR0 dX12_isColumn_3 ?_
  refine r_aloadR0 dX12_isColumn_4 ?_
  refine q_callV0 zm_RX12_343 dX12_isColumn_5 (shM_k hs) (by decide) rfl (Nat.le_of_ble_eq_true rfl) (Nat.le_of_ble_eq_true rfl) (Nat.le_of_ble_eq_true rfl) (Nat.le_of_ble_eq_true rfl) (Nat.le_of_ble_eq_true rfl) (s_X12_now G hs hk hw (fun r5 g5_z e5_z o5 c5_z => ?_))
  refine q_callV1 zm_RX12_256 dX12_isColumn_8 (shM_k hs) (by decide) rfl (Nat.le_of_ble_eq_true rfl) (Nat.le_of_ble_eq_true rfl) (Nat.le_of_ble_eq_true rfl) (Nat.le_of_ble_eq_true rfl) (Nat.le_of_ble_eq_true rfl) (s_X12_columnsAt (v := (tbL T).length) G hs e5_z (by omega) c5_z.1 (fun r8 e8 => ?_))
  refine n_iconst dX12_isColumn_11 (by decide) (fun r11 e11_z => ?_)
  refine n_isub dX12_isColumn_12 (by omega) (fun r12 e12_z => ?_)
  refine n_i2l dX12_isColumn_13 (fun r13 e13_z => ?_)
  refine q_callS3 zm_RX12_138 dX12_isColumn_14 (Nat.le_of_ble_eq_true rfl) (Nat.le_of_ble_eq_true rfl) (Nat.le_of_ble_eq_true rfl) (Nat.le_of_ble_eq_true rfl) (Nat.le_of_ble_eq_true rfl) (s_X12_within G  (fun r14 e14_z => ?_))
  refine m_zret dX12_isColumn_17 rfl (by omega) (Nat.le_of_ble_eq_true rfl) (Nat.le_of_ble_eq_true rfl) ?_
  exact hQ _ g5_z (by omega) o5 c5_z
set_option maxHeartbeats 4000000 in
set_option maxRecDepth 100000 in
theorem s_X12_high {g : zGT} {w : zW} {f : Nat → Nat → Int32} {j : Nat → Nat → Int64} {A : Nat} {T : zTb} {x : Int32} {Q : Option Value → zW → Prop} {QX : String → zW → Prop} (G : zGok g) (hs : shM w A) (hk : ctKn (f (A + 1)) T) (hw : wfT T) (hT1 : ¬ (0 ≤ x.toInt ∧ x.toInt < ((tbL T).length : Nat)) → ∀ (r : Int32) f2_z, frM A [6] [4] f f2_z → (f2_z A 4).toInt = 1 → Q (some (.int r)) (zM w f2_z j)) (hQ : (0 ≤ x.toInt ∧ x.toInt < ((tbL T).length : Nat)) → ∀ (r : Int32) f2_z, r.toInt = ((zcol (tbL T) x.toInt).length : Nat) → frM A [6] [4] f f2_z → (f2_z A 4).toInt = 0 → Q (some (.int r)) (zM w f2_z j)) : zC g 6 yX12_high cX12_high 2 (some .int) [.ref A, .int x] (zM w f j) (0, 0) Q QX := by
  refine zC_of G (by decide +kernel) (Nat.le_of_ble_eq_true rfl) ?_
  have hk9 := hk
  obtain ⟨⟨k0_z, k1_z, k2_z, k3_z, k4_z, k5_z, k6_z⟩, km, kg, kp, kl1, kl2, kl3⟩ := hk9
  have km9 := km
  obtain ⟨m1_z, m2_z, m3_z⟩ := km9
  have hn6 : tbC T ≤ 6 := hw.2.1
  have hg4 : tbG T ≤ 4 := hw.2.2.1
  have hwm := hw.2.2.2.2.2.2.2.1
  have hml : T.2.2.1.2.length ≤ 5 := hwm.2.1
  have hm99 := hwm.2.2
  have hrt := wfT_rch hw
  have hLl : (tbL T).length ≤ 6 := Nat.le_trans (rch_cell hrt).2.2.2.2 hn6
  have hpl : T.2.2.2.length ≤ 10 := hw.2.2.2.2.2.2.2.2.1
  refine r_aloadR0 dX12_high_0 ?_
  refine n_iconst dX12_high_1 (by decide) (fun r1 e1_z => ?_)
  refine m_putI zf_RX12_77 (by intro C T N h_z; cases h_z; rfl) rfl dX12_high_2 (shM_k hs) ?_
  obtain ⟨g2, hg2⟩ : ∃ g9, g9 = zu f A 4 r1 := ⟨_, rfl⟩
  rw [← hg2]
  have og2 : frM A [] [4] f g2 := by rw [hg2]; exact frM_zk frM_rf (by decide)
  have vg2 : g2 A 4 = r1 := by rw [hg2]; exact zu_at
  have vt2 : (g2 A 4).toInt = r1.toInt := by rw [vg2]
  have hk2 : ctKn (g2 (A + 1)) T := by rw [og2.2.1 1 (by decide) (by decide) (by decide)]; exact hk
  refine r_aloadR0 dX12_high_5 ?_
  refine r_iload1 dX12_high_6 ?_
  refine q_callV1 zm_RX12_346 dX12_high_7 (shM_k hs) (by decide) rfl (Nat.le_of_ble_eq_true rfl) (Nat.le_of_ble_eq_true rfl) (Nat.le_of_ble_eq_true rfl) (Nat.le_of_ble_eq_true rfl) (Nat.le_of_ble_eq_true rfl) (s_X12_isColumn G hs hk2 hw (fun r7 g7 e7_z o7 c7_z => ?_))
  have hk7 : ctKn (g7 (A + 1)) T := by rw [o7.2.1 1 (by decide) (by decide) (by decide)]; exact hk2
  have q7_z : (g7 (A + 1) 7).toInt = (T.2.2.1.2.length : Nat) := hk7.2.1.1
  have hcc : (0 ≤ x.toInt ∧ x.toInt < ((tbL T).length : Nat)) → ctCo (g7 (A + 6)) T.2.2.1.2.length x.toInt.toNat (zcol (tbL T) x.toInt) := fun h9 => ctLi_col c7_z h9.1 h9.2
  refine t_ifeq (t := 28) dX12_high_10 (by decide) (fun h10 => ?_) (fun h10 => ?_)
  · refine r_aloadR0 dX12_high_28 ?_
    refine n_iconst dX12_high_29 (by decide) (fun r29 e29 => ?_)
    refine q_callV1 zm_RX12_244 dX12_high_30 (shM_k hs) (by decide) rfl (Nat.le_of_ble_eq_true rfl) (Nat.le_of_ble_eq_true rfl) (Nat.le_of_ble_eq_true rfl) (Nat.le_of_ble_eq_true rfl) (Nat.le_of_ble_eq_true rfl) (s_X12_fails G hs (fun r30 g30 e30 o30 v30 => ?_))
    refine r_iret dX12_high_33 rfl (Nat.le_of_ble_eq_true rfl) (Nat.le_of_ble_eq_true rfl) ?_
    exact hT1 (by omega) _ g30 (frM_tr (frM_su og2 (by decide) (by decide)) (frM_tr (frM_su o7 (by decide) (by decide)) (frM_su o30 (by decide) (by decide)))) (by rw [v30]; omega)
  · refine r_aloadR0 dX12_high_13 ?_
    refine r_aloadR0 dX12_high_14 ?_
    refine m_getR (q := (A + 1)) zf_RX12_9 rfl dX12_high_15 (shM_k hs) (shM_p1 hs) ?_
    refine n_bipush dX12_high_18 (by decide) (fun r18 e18_z => ?_)
    refine m_iald (k := 7) (x := (g7 (A + 1) 7)) dX12_high_20 (shM_k1 hs) (shM_n1 hs) (by omega) (by omega) (rfl) ?_
    refine r_iload1 dX12_high_21 ?_
    refine q_callV2 zm_RX12_261 dX12_high_22 (shM_k hs) (by decide) rfl (Nat.le_of_ble_eq_true rfl) (Nat.le_of_ble_eq_true rfl) (Nat.le_of_ble_eq_true rfl) (Nat.le_of_ble_eq_true rfl) (Nat.le_of_ble_eq_true rfl) (s_X12_highAt (d := T.2.2.1.2.length) (c := x.toInt.toNat) G hs q7_z (by omega) (by omega) (by omega) (hcc (by omega)).1 (fun r22 e22_z => ?_))
    refine r_goto (t := 33) dX12_high_25 (by decide) ?_
    refine r_iret dX12_high_33 rfl (Nat.le_of_ble_eq_true rfl) (Nat.le_of_ble_eq_true rfl) ?_
    exact hQ (by omega) _ g7 (by omega) (frM_tr (frM_su og2 (by decide) (by decide)) (frM_su o7 (by decide) (by decide))) (by rw [o7.2.2 4 (by decide)]; omega)
set_option maxHeartbeats 4000000 in
set_option maxRecDepth 100000 in
theorem s_X12_above {g : zGT} {w : zW} {f : Nat → Nat → Int32} {j : Nat → Nat → Int64} {A : Nat} {T : zTb} {x : Int32} {Q : Option Value → zW → Prop} {QX : String → zW → Prop} (G : zGok g) (hs : shM w A) (hk : ctKn (f (A + 1)) T) (hw : wfT T) (hT1 : ¬ (0 ≤ x.toInt ∧ x.toInt < ((tbL T).length : Nat)) → ∀ (r : Int32) f2_z, frM A [6] [4] f f2_z → (f2_z A 4).toInt = 1 → Q (some (.int r)) (zM w f2_z j)) (hQ : (0 ≤ x.toInt ∧ x.toInt < ((tbL T).length : Nat)) → ∀ (r : Int32) f2_z, r.toInt = (seenA T.2.2.1.1 (tbL T) x.toInt.toNat : Nat) → frM A [6] [4] f f2_z → (f2_z A 4).toInt = 0 → Q (some (.int r)) (zM w f2_z j)) : zC g 6 yX12_above cX12_above 2 (some .int) [.ref A, .int x] (zM w f j) (0, 0) Q QX := by
  refine zC_of G (by decide +kernel) (Nat.le_of_ble_eq_true rfl) ?_
  have hk9 := hk
  obtain ⟨⟨k0_z, k1_z, k2_z, k3_z, k4_z, k5_z, k6_z⟩, km, kg, kp, kl1, kl2, kl3⟩ := hk9
  have km9 := km
  obtain ⟨m1_z, m2_z, m3_z⟩ := km9
  have hn6 : tbC T ≤ 6 := hw.2.1
  have hg4 : tbG T ≤ 4 := hw.2.2.1
  have hwm := hw.2.2.2.2.2.2.2.1
  have hml : T.2.2.1.2.length ≤ 5 := hwm.2.1
  have hm99 := hwm.2.2
  have hrt := wfT_rch hw
  have hLl : (tbL T).length ≤ 6 := Nat.le_trans (rch_cell hrt).2.2.2.2 hn6
  have hpl : T.2.2.2.length ≤ 10 := hw.2.2.2.2.2.2.2.2.1
  refine r_aloadR0 dX12_above_0 ?_
  refine n_iconst dX12_above_1 (by decide) (fun r1 e1_z => ?_)
  refine m_putI zf_RX12_77 (by intro C T N h_z; cases h_z; rfl) rfl dX12_above_2 (shM_k hs) ?_
  obtain ⟨g2, hg2⟩ : ∃ g9, g9 = zu f A 4 r1 := ⟨_, rfl⟩
  rw [← hg2]
  have og2 : frM A [] [4] f g2 := by rw [hg2]; exact frM_zk frM_rf (by decide)
  have vg2 : g2 A 4 = r1 := by rw [hg2]; exact zu_at
  have vt2 : (g2 A 4).toInt = r1.toInt := by rw [vg2]
  have hk2 : ctKn (g2 (A + 1)) T := by rw [og2.2.1 1 (by decide) (by decide) (by decide)]; exact hk
  refine r_aloadR0 dX12_above_5 ?_
  refine r_iload1 dX12_above_6 ?_
  refine q_callV1 zm_RX12_346 dX12_above_7 (shM_k hs) (by decide) rfl (Nat.le_of_ble_eq_true rfl) (Nat.le_of_ble_eq_true rfl) (Nat.le_of_ble_eq_true rfl) (Nat.le_of_ble_eq_true rfl) (Nat.le_of_ble_eq_true rfl) (s_X12_isColumn G hs hk2 hw (fun r7 g7 e7_z o7 c7_z => ?_))
  have hk7 : ctKn (g7 (A + 1)) T := by rw [o7.2.1 1 (by decide) (by decide) (by decide)]; exact hk2
  have q7_z : (g7 (A + 1) 7).toInt = (T.2.2.1.2.length : Nat) := hk7.2.1.1
  have hcc : (0 ≤ x.toInt ∧ x.toInt < ((tbL T).length : Nat)) → ctCo (g7 (A + 6)) T.2.2.1.2.length x.toInt.toNat (zcol (tbL T) x.toInt) := fun h9 => ctLi_col c7_z h9.1 h9.2
  refine t_ifeq (t := 28) dX12_above_10 (by decide) (fun h10 => ?_) (fun h10 => ?_)
  · refine r_aloadR0 dX12_above_28 ?_
    refine n_iconst dX12_above_29 (by decide) (fun r29 e29 => ?_)
    refine q_callV1 zm_RX12_244 dX12_above_30 (shM_k hs) (by decide) rfl (Nat.le_of_ble_eq_true rfl) (Nat.le_of_ble_eq_true rfl) (Nat.le_of_ble_eq_true rfl) (Nat.le_of_ble_eq_true rfl) (Nat.le_of_ble_eq_true rfl) (s_X12_fails G hs (fun r30 g30 e30 o30 v30 => ?_))
    refine r_iret dX12_above_33 rfl (Nat.le_of_ble_eq_true rfl) (Nat.le_of_ble_eq_true rfl) ?_
    exact hT1 (by omega) _ g30 (frM_tr (frM_su og2 (by decide) (by decide)) (frM_tr (frM_su o7 (by decide) (by decide)) (frM_su o30 (by decide) (by decide)))) (by rw [v30]; omega)
  · refine r_aloadR0 dX12_above_13 ?_
    refine r_aloadR0 dX12_above_14 ?_
    refine m_getR (q := (A + 1)) zf_RX12_9 rfl dX12_above_15 (shM_k hs) (shM_p1 hs) ?_
    refine n_bipush dX12_above_18 (by decide) (fun r18 e18_z => ?_)
    refine m_iald (k := 7) (x := (g7 (A + 1) 7)) dX12_above_20 (shM_k1 hs) (shM_n1 hs) (by omega) (by omega) (rfl) ?_
    refine r_iload1 dX12_above_21 ?_
    refine q_callV2 zm_RX12_287 dX12_above_22 (shM_k hs) (by decide) rfl (Nat.le_of_ble_eq_true rfl) (Nat.le_of_ble_eq_true rfl) (Nat.le_of_ble_eq_true rfl) (Nat.le_of_ble_eq_true rfl) (Nat.le_of_ble_eq_true rfl) (s_X12_aboveAt (mk := T.2.2.1.1) (n := tbC T) (c := x.toInt.toNat) G hs (fun c hc_z => hk7.2.1.2.2 c hc_z) q7_z (by omega) c7_z hrt (by omega) (by omega) (fun r22 e22_z => ?_))
    refine r_goto (t := 33) dX12_above_25 (by decide) ?_
    refine r_iret dX12_above_33 rfl (Nat.le_of_ble_eq_true rfl) (Nat.le_of_ble_eq_true rfl) ?_
    exact hQ (by omega) _ g7 (by omega) (frM_tr (frM_su og2 (by decide) (by decide)) (frM_su o7 (by decide) (by decide))) (by rw [o7.2.2 4 (by decide)]; omega)
set_option maxHeartbeats 4000000 in
set_option maxRecDepth 100000 in
theorem s_X12_beneath {g : zGT} {w : zW} {f : Nat → Nat → Int32} {j : Nat → Nat → Int64} {A : Nat} {T : zTb} {x : Int32} {Q : Option Value → zW → Prop} {QX : String → zW → Prop} (G : zGok g) (hs : shM w A) (hk : ctKn (f (A + 1)) T) (hw : wfT T) (hT1 : ¬ (0 ≤ x.toInt ∧ x.toInt < ((tbL T).length : Nat)) → ∀ (r : Int32) f2_z, frM A [6] [4] f f2_z → (f2_z A 4).toInt = 1 → Q (some (.int r)) (zM w f2_z j)) (hQ : (0 ≤ x.toInt ∧ x.toInt < ((tbL T).length : Nat)) → ∀ (r : Int32) f2_z, r.toInt = (seenB T.2.2.1.1 (tbL T) x.toInt.toNat : Nat) → frM A [6] [4] f f2_z → (f2_z A 4).toInt = 0 → Q (some (.int r)) (zM w f2_z j)) : zC g 6 yX12_beneath cX12_beneath 2 (some .int) [.ref A, .int x] (zM w f j) (0, 0) Q QX := by
  refine zC_of G (by decide +kernel) (Nat.le_of_ble_eq_true rfl) ?_
  have hk9 := hk
  obtain ⟨⟨k0_z, k1_z, k2_z, k3_z, k4_z, k5_z, k6_z⟩, km, kg, kp, kl1, kl2, kl3⟩ := hk9
  have km9 := km
  obtain ⟨m1_z, m2_z, m3_z⟩ := km9
  have hn6 : tbC T ≤ 6 := hw.2.1
  have hg4 : tbG T ≤ 4 := hw.2.2.1
  have hwm := hw.2.2.2.2.2.2.2.1
  have hml : T.2.2.1.2.length ≤ 5 := hwm.2.1
  have hm99 := hwm.2.2
  have hrt := wfT_rch hw
  have hLl : (tbL T).length ≤ 6 := Nat.le_trans (rch_cell hrt).2.2.2.2 hn6
  have hpl : T.2.2.2.length ≤ 10 := hw.2.2.2.2.2.2.2.2.1
  refine r_aloadR0 dX12_beneath_0 ?_
  refine n_iconst dX12_beneath_1 (by decide) (fun r1 e1_z => ?_)
  refine m_putI zf_RX12_77 (by intro C T N h_z; cases h_z; rfl) rfl dX12_beneath_2 (shM_k hs) ?_
  obtain ⟨g2, hg2⟩ : ∃ g9, g9 = zu f A 4 r1 := ⟨_, rfl⟩
  rw [← hg2]
  have og2 : frM A [] [4] f g2 := by rw [hg2]; exact frM_zk frM_rf (by decide)
  have vg2 : g2 A 4 = r1 := by rw [hg2]; exact zu_at
  have vt2 : (g2 A 4).toInt = r1.toInt := by rw [vg2]
  have hk2 : ctKn (g2 (A + 1)) T := by rw [og2.2.1 1 (by decide) (by decide) (by decide)]; exact hk
  refine r_aloadR0 dX12_beneath_5 ?_
  refine r_iload1 dX12_beneath_6 ?_
  refine q_callV1 zm_RX12_346 dX12_beneath_7 (shM_k hs) (by decide) rfl (Nat.le_of_ble_eq_true rfl) (Nat.le_of_ble_eq_true rfl) (Nat.le_of_ble_eq_true rfl) (Nat.le_of_ble_eq_true rfl) (Nat.le_of_ble_eq_true rfl) (s_X12_isColumn G hs hk2 hw (fun r7 g7 e7_z o7 c7_z => ?_))
  have hk7 : ctKn (g7 (A + 1)) T := by rw [o7.2.1 1 (by decide) (by decide) (by decide)]; exact hk2
  have q7_z : (g7 (A + 1) 7).toInt = (T.2.2.1.2.length : Nat) := hk7.2.1.1
  have hcc : (0 ≤ x.toInt ∧ x.toInt < ((tbL T).length : Nat)) → ctCo (g7 (A + 6)) T.2.2.1.2.length x.toInt.toNat (zcol (tbL T) x.toInt) := fun h9 => ctLi_col c7_z h9.1 h9.2
  refine t_ifeq (t := 28) dX12_beneath_10 (by decide) (fun h10 => ?_) (fun h10 => ?_)
  · refine r_aloadR0 dX12_beneath_28 ?_
    refine n_iconst dX12_beneath_29 (by decide) (fun r29 e29 => ?_)
    refine q_callV1 zm_RX12_244 dX12_beneath_30 (shM_k hs) (by decide) rfl (Nat.le_of_ble_eq_true rfl) (Nat.le_of_ble_eq_true rfl) (Nat.le_of_ble_eq_true rfl) (Nat.le_of_ble_eq_true rfl) (Nat.le_of_ble_eq_true rfl) (s_X12_fails G hs (fun r30 g30 e30 o30 v30 => ?_))
    refine r_iret dX12_beneath_33 rfl (Nat.le_of_ble_eq_true rfl) (Nat.le_of_ble_eq_true rfl) ?_
    exact hT1 (by omega) _ g30 (frM_tr (frM_su og2 (by decide) (by decide)) (frM_tr (frM_su o7 (by decide) (by decide)) (frM_su o30 (by decide) (by decide)))) (by rw [v30]; omega)
  · refine r_aloadR0 dX12_beneath_13 ?_
    refine r_aloadR0 dX12_beneath_14 ?_
    refine m_getR (q := (A + 1)) zf_RX12_9 rfl dX12_beneath_15 (shM_k hs) (shM_p1 hs) ?_
    refine n_bipush dX12_beneath_18 (by decide) (fun r18 e18_z => ?_)
    refine m_iald (k := 7) (x := (g7 (A + 1) 7)) dX12_beneath_20 (shM_k1 hs) (shM_n1 hs) (by omega) (by omega) (rfl) ?_
    refine r_iload1 dX12_beneath_21 ?_
    refine q_callV2 zm_RX12_290 dX12_beneath_22 (shM_k hs) (by decide) rfl (Nat.le_of_ble_eq_true rfl) (Nat.le_of_ble_eq_true rfl) (Nat.le_of_ble_eq_true rfl) (Nat.le_of_ble_eq_true rfl) (Nat.le_of_ble_eq_true rfl) (s_X12_beneathAt (mk := T.2.2.1.1) (n := tbC T) (c := x.toInt.toNat) G hs (fun c hc_z => hk7.2.1.2.2 c hc_z) q7_z (by omega) c7_z hrt (by omega) (by omega) (fun r22 e22_z => ?_))
    refine r_goto (t := 33) dX12_beneath_25 (by decide) ?_
    refine r_iret dX12_beneath_33 rfl (Nat.le_of_ble_eq_true rfl) (Nat.le_of_ble_eq_true rfl) ?_
    exact hQ (by omega) _ g7 (by omega) (frM_tr (frM_su og2 (by decide) (by decide)) (frM_su o7 (by decide) (by decide))) (by rw [o7.2.2 4 (by decide)]; omega)
set_option maxHeartbeats 4000000 in
set_option maxRecDepth 100000 in
theorem s_X12_layer {g : zGT} {w : zW} {f : Nat → Nat → Int32} {j : Nat → Nat → Int64} {A : Nat} {T : zTb} {x y : Int32} {Q : Option Value → zW → Prop} {QX : String → zW → Prop} (G : zGok g) (hs : shM w A) (hk : ctKn (f (A + 1)) T) (hw : wfT T) (hT1 : ¬ (0 ≤ x.toInt ∧ x.toInt < ((tbL T).length : Nat)) → ∀ (r : Int32) f2_z, frM A [6] [4] f f2_z → (f2_z A 4).toInt = 1 → Q (some (.int r)) (zM w f2_z j)) (hT2 : (0 ≤ x.toInt ∧ x.toInt < ((tbL T).length : Nat)) → ¬ 0 ≤ y.toInt → ∀ (r : Int32) f2_z, frM A [6] [4] f f2_z → (f2_z A 4).toInt = 2 → Q (some (.int r)) (zM w f2_z j)) (hQ : (0 ≤ x.toInt ∧ x.toInt < ((tbL T).length : Nat)) → 0 ≤ y.toInt → ∀ (r : Int32) f2_z, r.toInt = layI (tbL T) x.toInt y.toInt → frM A [6] [4] f f2_z → (f2_z A 4).toInt = 0 → Q (some (.int r)) (zM w f2_z j)) : zC g 6 yX12_layer cX12_layer 3 (some .int) [.ref A, .int x, .int y] (zM w f j) (0, 0) Q QX := by
  refine zC_of G (by decide +kernel) (Nat.le_of_ble_eq_true rfl) ?_
  have hk9 := hk
  obtain ⟨⟨k0_z, k1_z, k2_z, k3_z, k4_z, k5_z, k6_z⟩, km, kg, kp, kl1, kl2, kl3⟩ := hk9
  have km9 := km
  obtain ⟨m1_z, m2_z, m3_z⟩ := km9
  have hn6 : tbC T ≤ 6 := hw.2.1
  have hg4 : tbG T ≤ 4 := hw.2.2.1
  have hwm := hw.2.2.2.2.2.2.2.1
  have hml : T.2.2.1.2.length ≤ 5 := hwm.2.1
  have hm99 := hwm.2.2
  have hrt := wfT_rch hw
  have hLl : (tbL T).length ≤ 6 := Nat.le_trans (rch_cell hrt).2.2.2.2 hn6
  have hpl : T.2.2.2.length ≤ 10 := hw.2.2.2.2.2.2.2.2.1
  have hbd := rch_bd hrt
  have hfl := (rch_cell hrt).1
  have hzl := zcol_le (L := tbL T) (c := x.toInt) (by omega)
  rcases Classical.em (0 ≤ x.toInt ∧ x.toInt < ((tbL T).length : Nat)) with hc_z | hc_z
  · rcases Int.lt_or_le y.toInt 0 with hy | hy
    · refine r_aloadR0 dX12_layer_0 ?_
      refine r_aloadR0 dX12_layer_1 ?_
      refine r_iload1 dX12_layer_2 ?_
      refine q_callV1 zm_RX12_346 dX12_layer_3 (shM_k hs) (by decide) rfl (Nat.le_of_ble_eq_true rfl) (Nat.le_of_ble_eq_true rfl) (Nat.le_of_ble_eq_true rfl) (Nat.le_of_ble_eq_true rfl) (Nat.le_of_ble_eq_true rfl) (s_X12_isColumn G hs hk hw (fun r3 g3_z e3_z o3 c3_z => ?_))
      have hk3 : ctKn (g3_z (A + 1)) T := by rw [o3.2.1 1 (by decide) (by decide) (by decide)]; exact hk
      refine t_ifne (t := 13) dX12_layer_6 (by decide) (fun h6 => ?_) (fun h6 => False.elim (by omega))
      refine r_iload2 dX12_layer_13 ?_
      refine t_ifge (t := 21) dX12_layer_14 (by decide) (fun h14 => False.elim (by omega)) (fun h14 => ?_)
      refine n_iconst dX12_layer_17 (by decide) (fun r17 e17_z => ?_)
      refine r_goto (t := 22) dX12_layer_18 (by decide) ?_
      refine m_putI zf_RX12_77 (by intro C T N h_z; cases h_z; rfl) rfl dX12_layer_22 (shM_k hs) ?_
      obtain ⟨g22, hg22⟩ : ∃ g9, g9 = zu g3_z A 4 r17 := ⟨_, rfl⟩
      rw [← hg22]
      have og22 : frM A [] [4] g3_z g22 := by rw [hg22]; exact frM_zk frM_rf (by decide)
      have vg22 : g22 A 4 = r17 := by rw [hg22]; exact zu_at
      have vt22 : (g22 A 4).toInt = r17.toInt := by rw [vg22]
      have hk22 : ctKn (g22 (A + 1)) T := by rw [og22.2.1 1 (by decide) (by decide) (by decide)]; exact hk3
      have c22 : ctLi (g22 (A + 6)) T.2.2.1.2.length (tbL T) := by rw [og22.2.1 6 (by decide) (by decide) (by decide)]; exact c3_z
      have q7_z : (g22 (A + 1) 7).toInt = (T.2.2.1.2.length : Nat) := hk22.2.1.1
      have ofr : frM A [6] [4] f g22 := frM_tr (frM_su o3 (by decide) (by decide)) (frM_su og22 (by decide) (by decide))
      refine r_aloadR0 dX12_layer_25 ?_
      refine m_getV (x := (g22 A 4)) zf_RX12_77 rfl dX12_layer_26 (shM_k hs) (rfl) ?_
      refine t_ifle (t := 34) dX12_layer_29 (by decide) (fun h29 => False.elim (by omega)) (fun h29 => ?_)
      refine n_iconst dX12_layer_32 (by decide) (fun r32 e32 => ?_)
      refine r_iret dX12_layer_33 rfl (Nat.le_of_ble_eq_true rfl) (Nat.le_of_ble_eq_true rfl) ?_
      exact hT2 hc_z (by omega) _ g22 ofr (by omega)
    · rcases Nat.lt_or_ge y.toInt.toNat (zcol (tbL T) x.toInt).length with hyl | hyl
      · obtain ⟨p, hp⟩ : ∃ p, (zcol (tbL T) x.toInt)[y.toInt.toNat]? = some p := ⟨_, List.getElem?_eq_getElem hyl⟩
        refine r_aloadR0 dX12_layer_0 ?_
        refine r_aloadR0 dX12_layer_1 ?_
        refine r_iload1 dX12_layer_2 ?_
        refine q_callV1 zm_RX12_346 dX12_layer_3 (shM_k hs) (by decide) rfl (Nat.le_of_ble_eq_true rfl) (Nat.le_of_ble_eq_true rfl) (Nat.le_of_ble_eq_true rfl) (Nat.le_of_ble_eq_true rfl) (Nat.le_of_ble_eq_true rfl) (s_X12_isColumn G hs hk hw (fun r3 g3_z e3_z o3 c3_z => ?_))
        have hk3 : ctKn (g3_z (A + 1)) T := by rw [o3.2.1 1 (by decide) (by decide) (by decide)]; exact hk
        refine t_ifne (t := 13) dX12_layer_6 (by decide) (fun h6 => ?_) (fun h6 => False.elim (by omega))
        refine r_iload2 dX12_layer_13 ?_
        refine t_ifge (t := 21) dX12_layer_14 (by decide) (fun h14 => ?_) (fun h14 => False.elim (by omega))
        refine n_iconst dX12_layer_21 (by decide) (fun r21 e21_z => ?_)
        refine m_putI zf_RX12_77 (by intro C T N h_z; cases h_z; rfl) rfl dX12_layer_22 (shM_k hs) ?_
        obtain ⟨g22, hg22⟩ : ∃ g9, g9 = zu g3_z A 4 r21 := ⟨_, rfl⟩
        rw [← hg22]
        have og22 : frM A [] [4] g3_z g22 := by rw [hg22]; exact frM_zk frM_rf (by decide)
        have vg22 : g22 A 4 = r21 := by rw [hg22]; exact zu_at
        have vt22 : (g22 A 4).toInt = r21.toInt := by rw [vg22]
        have hk22 : ctKn (g22 (A + 1)) T := by rw [og22.2.1 1 (by decide) (by decide) (by decide)]; exact hk3
        have c22 : ctLi (g22 (A + 6)) T.2.2.1.2.length (tbL T) := by rw [og22.2.1 6 (by decide) (by decide) (by decide)]; exact c3_z
        have q7_z : (g22 (A + 1) 7).toInt = (T.2.2.1.2.length : Nat) := hk22.2.1.1
        have ofr : frM A [6] [4] f g22 := frM_tr (frM_su o3 (by decide) (by decide)) (frM_su og22 (by decide) (by decide))
        refine r_aloadR0 dX12_layer_25 ?_
        refine m_getV (x := (g22 A 4)) zf_RX12_77 rfl dX12_layer_26 (shM_k hs) (rfl) ?_
        refine t_ifle (t := 34) dX12_layer_29 (by decide) (fun h29 => ?_) (fun h29 => False.elim (by omega))
        refine r_iload2 dX12_layer_34 ?_
        refine r_aloadR0 dX12_layer_35 ?_
        refine r_aloadR0 dX12_layer_36 ?_
        refine m_getR (q := (A + 1)) zf_RX12_9 rfl dX12_layer_37 (shM_k hs) (shM_p1 hs) ?_
        refine n_bipush dX12_layer_40 (by decide) (fun r40 e40 => ?_)
        refine m_iald (k := 7) (x := (g22 (A + 1) 7)) dX12_layer_42 (shM_k1 hs) (shM_n1 hs) (by omega) (by omega) (rfl) ?_
        refine r_iload1 dX12_layer_43 ?_
        refine q_callV2 zm_RX12_261 dX12_layer_44 (shM_k hs) (by decide) rfl (Nat.le_of_ble_eq_true rfl) (Nat.le_of_ble_eq_true rfl) (Nat.le_of_ble_eq_true rfl) (Nat.le_of_ble_eq_true rfl) (Nat.le_of_ble_eq_true rfl) (s_X12_highAt (d := T.2.2.1.2.length) (c := x.toInt.toNat) G hs q7_z (by omega) (by omega) (by omega) (ctLi_col c22 hc_z.1 hc_z.2).1 (fun r44 e44 => ?_))
        refine t_icge (t := 68) dX12_layer_47 (by decide) (fun h47 => False.elim (by omega)) (fun h47 => ?_)
        refine r_aloadR0 dX12_layer_50 ?_
        refine r_aloadR0 dX12_layer_51 ?_
        refine m_getR (q := (A + 1)) zf_RX12_9 rfl dX12_layer_52 (shM_k hs) (shM_p1 hs) ?_
        refine n_bipush dX12_layer_55 (by decide) (fun r55 e55 => ?_)
        refine m_iald (k := 7) (x := (g22 (A + 1) 7)) dX12_layer_57 (shM_k1 hs) (shM_n1 hs) (by omega) (by omega) (rfl) ?_
        refine r_iload1 dX12_layer_58 ?_
        refine r_iload2 dX12_layer_59 ?_
        refine q_callV3 zm_RX12_264 dX12_layer_60 (shM_k hs) (by decide) rfl (Nat.le_of_ble_eq_true rfl) (Nat.le_of_ble_eq_true rfl) (Nat.le_of_ble_eq_true rfl) (Nat.le_of_ble_eq_true rfl) (Nat.le_of_ble_eq_true rfl) (s_X12_layerAt (d := T.2.2.1.2.length) (c := x.toInt.toNat) (i := y.toInt.toNat) (v := cdP p) G hs q7_z (by omega) (by omega) (by omega) (by omega) (by omega) ((ctLi_col c22 hc_z.1 hc_z.2).2 _ p hp) (fun r60 e60 => ?_))
        refine n_iconst dX12_layer_63 (by decide) (fun r63 e63 => ?_)
        refine n_idivc (c := 2) dX12_layer_64 e63 (by decide) (by omega) (fun r64 e64 => ?_)
        refine r_goto (t := 69) dX12_layer_65 (by decide) ?_
        refine r_iret dX12_layer_69 rfl (Nat.le_of_ble_eq_true rfl) (Nat.le_of_ble_eq_true rfl) ?_
        refine hQ hc_z (by omega) _ g22 ?_ ofr (by omega)
        unfold layI
        rw [hp]
        show _ = ((p.1 : Nat) : Int)
        unfold cdP at e60
        split at e60 <;> omega
      · refine r_aloadR0 dX12_layer_0 ?_
        refine r_aloadR0 dX12_layer_1 ?_
        refine r_iload1 dX12_layer_2 ?_
        refine q_callV1 zm_RX12_346 dX12_layer_3 (shM_k hs) (by decide) rfl (Nat.le_of_ble_eq_true rfl) (Nat.le_of_ble_eq_true rfl) (Nat.le_of_ble_eq_true rfl) (Nat.le_of_ble_eq_true rfl) (Nat.le_of_ble_eq_true rfl) (s_X12_isColumn G hs hk hw (fun r3 g3_z e3_z o3 c3_z => ?_))
        have hk3 : ctKn (g3_z (A + 1)) T := by rw [o3.2.1 1 (by decide) (by decide) (by decide)]; exact hk
        refine t_ifne (t := 13) dX12_layer_6 (by decide) (fun h6 => ?_) (fun h6 => False.elim (by omega))
        refine r_iload2 dX12_layer_13 ?_
        refine t_ifge (t := 21) dX12_layer_14 (by decide) (fun h14 => ?_) (fun h14 => False.elim (by omega))
        refine n_iconst dX12_layer_21 (by decide) (fun r21 e21_z => ?_)
        refine m_putI zf_RX12_77 (by intro C T N h_z; cases h_z; rfl) rfl dX12_layer_22 (shM_k hs) ?_
        obtain ⟨g22, hg22⟩ : ∃ g9, g9 = zu g3_z A 4 r21 := ⟨_, rfl⟩
        rw [← hg22]
        have og22 : frM A [] [4] g3_z g22 := by rw [hg22]; exact frM_zk frM_rf (by decide)
        have vg22 : g22 A 4 = r21 := by rw [hg22]; exact zu_at
        have vt22 : (g22 A 4).toInt = r21.toInt := by rw [vg22]
        have hk22 : ctKn (g22 (A + 1)) T := by rw [og22.2.1 1 (by decide) (by decide) (by decide)]; exact hk3
        have c22 : ctLi (g22 (A + 6)) T.2.2.1.2.length (tbL T) := by rw [og22.2.1 6 (by decide) (by decide) (by decide)]; exact c3_z
        have q7_z : (g22 (A + 1) 7).toInt = (T.2.2.1.2.length : Nat) := hk22.2.1.1
        have ofr : frM A [6] [4] f g22 := frM_tr (frM_su o3 (by decide) (by decide)) (frM_su og22 (by decide) (by decide))
        refine r_aloadR0 dX12_layer_25 ?_
        refine m_getV (x := (g22 A 4)) zf_RX12_77 rfl dX12_layer_26 (shM_k hs) (rfl) ?_
        refine t_ifle (t := 34) dX12_layer_29 (by decide) (fun h29 => ?_) (fun h29 => False.elim (by omega))
        refine r_iload2 dX12_layer_34 ?_
        refine r_aloadR0 dX12_layer_35 ?_
        refine r_aloadR0 dX12_layer_36 ?_
        refine m_getR (q := (A + 1)) zf_RX12_9 rfl dX12_layer_37 (shM_k hs) (shM_p1 hs) ?_
        refine n_bipush dX12_layer_40 (by decide) (fun r40 e40 => ?_)
        refine m_iald (k := 7) (x := (g22 (A + 1) 7)) dX12_layer_42 (shM_k1 hs) (shM_n1 hs) (by omega) (by omega) (rfl) ?_
        refine r_iload1 dX12_layer_43 ?_
        refine q_callV2 zm_RX12_261 dX12_layer_44 (shM_k hs) (by decide) rfl (Nat.le_of_ble_eq_true rfl) (Nat.le_of_ble_eq_true rfl) (Nat.le_of_ble_eq_true rfl) (Nat.le_of_ble_eq_true rfl) (Nat.le_of_ble_eq_true rfl) (s_X12_highAt (d := T.2.2.1.2.length) (c := x.toInt.toNat) G hs q7_z (by omega) (by omega) (by omega) (ctLi_col c22 hc_z.1 hc_z.2).1 (fun r44 e44 => ?_))
        refine t_icge (t := 68) dX12_layer_47 (by decide) (fun h47 => ?_) (fun h47 => False.elim (by omega))
        refine n_iconst dX12_layer_68 (by decide) (fun r68 e68 => ?_)
        refine r_iret dX12_layer_69 rfl (Nat.le_of_ble_eq_true rfl) (Nat.le_of_ble_eq_true rfl) ?_
        refine hQ hc_z (by omega) _ g22 ?_ ofr (by omega)
        unfold layI
        rw [List.getElem?_eq_none hyl]
        show _ = (-1 : Int)
        omega
  · refine r_aloadR0 dX12_layer_0 ?_
    refine r_aloadR0 dX12_layer_1 ?_
    refine r_iload1 dX12_layer_2 ?_
    refine q_callV1 zm_RX12_346 dX12_layer_3 (shM_k hs) (by decide) rfl (Nat.le_of_ble_eq_true rfl) (Nat.le_of_ble_eq_true rfl) (Nat.le_of_ble_eq_true rfl) (Nat.le_of_ble_eq_true rfl) (Nat.le_of_ble_eq_true rfl) (s_X12_isColumn G hs hk hw (fun r3 g3_z e3_z o3 c3_z => ?_))
    have hk3 : ctKn (g3_z (A + 1)) T := by rw [o3.2.1 1 (by decide) (by decide) (by decide)]; exact hk
    refine t_ifne (t := 13) dX12_layer_6 (by decide) (fun h6 => False.elim (by omega)) (fun h6 => ?_)
    refine n_iconst dX12_layer_9 (by decide) (fun r9 e9_z => ?_)
    refine r_goto (t := 22) dX12_layer_10 (by decide) ?_
    refine m_putI zf_RX12_77 (by intro C T N h_z; cases h_z; rfl) rfl dX12_layer_22 (shM_k hs) ?_
    obtain ⟨g22, hg22⟩ : ∃ g9, g9 = zu g3_z A 4 r9 := ⟨_, rfl⟩
    rw [← hg22]
    have og22 : frM A [] [4] g3_z g22 := by rw [hg22]; exact frM_zk frM_rf (by decide)
    have vg22 : g22 A 4 = r9 := by rw [hg22]; exact zu_at
    have vt22 : (g22 A 4).toInt = r9.toInt := by rw [vg22]
    have hk22 : ctKn (g22 (A + 1)) T := by rw [og22.2.1 1 (by decide) (by decide) (by decide)]; exact hk3
    have c22 : ctLi (g22 (A + 6)) T.2.2.1.2.length (tbL T) := by rw [og22.2.1 6 (by decide) (by decide) (by decide)]; exact c3_z
    have q7_z : (g22 (A + 1) 7).toInt = (T.2.2.1.2.length : Nat) := hk22.2.1.1
    have ofr : frM A [6] [4] f g22 := frM_tr (frM_su o3 (by decide) (by decide)) (frM_su og22 (by decide) (by decide))
    refine r_aloadR0 dX12_layer_25 ?_
    refine m_getV (x := (g22 A 4)) zf_RX12_77 rfl dX12_layer_26 (shM_k hs) (rfl) ?_
    refine t_ifle (t := 34) dX12_layer_29 (by decide) (fun h29 => False.elim (by omega)) (fun h29 => ?_)
    refine n_iconst dX12_layer_32 (by decide) (fun r32 e32 => ?_)
    refine r_iret dX12_layer_33 rfl (Nat.le_of_ble_eq_true rfl) (Nat.le_of_ble_eq_true rfl) ?_
    exact hT1 hc_z _ g22 ofr (by omega)
set_option maxHeartbeats 4000000 in
set_option maxRecDepth 100000 in
theorem s_X12_cell {g : zGT} {w : zW} {f : Nat → Nat → Int32} {j : Nat → Nat → Int64} {A : Nat} {T : zTb} {x y : Int32} {Q : Option Value → zW → Prop} {QX : String → zW → Prop} (G : zGok g) (hs : shM w A) (hk : ctKn (f (A + 1)) T) (hw : wfT T) (hT1 : ¬ (0 ≤ x.toInt ∧ x.toInt < (tbC T : Nat)) → ∀ (r : Int32) f2_z, frM A [] [4] f f2_z → (f2_z A 4).toInt = 1 → Q (some (.int r)) (zM w f2_z j)) (hT2 : (0 ≤ x.toInt ∧ x.toInt < (tbC T : Nat)) → ¬ (0 ≤ y.toInt ∧ y.toInt ≤ 4) → ∀ (r : Int32) f2_z, frM A [] [4] f f2_z → (f2_z A 4).toInt = 2 → Q (some (.int r)) (zM w f2_z j)) (hQ : (0 ≤ x.toInt ∧ x.toInt < (tbC T : Nat)) → (0 ≤ y.toInt ∧ y.toInt ≤ 4) → ∀ (r : Int32) f2_z, r.toInt = celI T x.toInt.toNat y.toInt → frM A [6, 7] [4] f f2_z → (f2_z A 4).toInt = 0 → Q (some (.int r)) (zM w f2_z j)) : zC g 6 yX12_cell cX12_cell 3 (some .int) [.ref A, .int x, .int y] (zM w f j) (0, 0) Q QX := by
  refine zC_of G (by decide +kernel) (Nat.le_of_ble_eq_true rfl) ?_
  have hk9 := hk
  obtain ⟨⟨k0_z, k1_z, k2_z, k3_z, k4_z, k5_z, k6_z⟩, km, kg, kp, kl1, kl2, kl3⟩ := hk9
  have km9 := km
  obtain ⟨m1_z, m2_z, m3_z⟩ := km9
  have hn6 : tbC T ≤ 6 := hw.2.1
  have hg4 : tbG T ≤ 4 := hw.2.2.1
  have hwm := hw.2.2.2.2.2.2.2.1
  have hml : T.2.2.1.2.length ≤ 5 := hwm.2.1
  have hm99 := hwm.2.2
  have hrt := wfT_rch hw
  have hLl : (tbL T).length ≤ 6 := Nat.le_trans (rch_cell hrt).2.2.2.2 hn6
  have hpl : T.2.2.2.length ≤ 10 := hw.2.2.2.2.2.2.2.2.1
  rcases Classical.em (0 ≤ x.toInt ∧ x.toInt < (tbC T : Nat)) with hc_z | hc_z
  · rcases Classical.em (0 ≤ y.toInt ∧ y.toInt ≤ 4) with hy | hy
    · have hrc := rch_at hrt (show x.toInt.toNat < tbC T by omega)
      obtain ⟨p1, p2, p3, p4⟩ := hrc
      have hmx := km.2.2 x.toInt.toNat (by omega)
      refine r_aloadR0 dX12_cell_0 ?_
      refine r_aloadR0 dX12_cell_1 ?_
      refine r_iload1 dX12_cell_2 ?_
      refine n_i2l dX12_cell_3 (fun r3 e3_z => ?_)
      refine q_callV1 zm_RX12_337 dX12_cell_4 (shM_k hs) (by decide) rfl (Nat.le_of_ble_eq_true rfl) (Nat.le_of_ble_eq_true rfl) (Nat.le_of_ble_eq_true rfl) (Nat.le_of_ble_eq_true rfl) (Nat.le_of_ble_eq_true rfl) (s_X12_isCell G hs hk.1.2.1 hn6 (fun r4 e4_z => ?_))
      refine t_ifne (t := 14) dX12_cell_7 (by decide) (fun h7 => ?_) (fun h7 => False.elim (by omega))
      refine r_iload2 dX12_cell_14 ?_
      refine n_i2l dX12_cell_15 (fun r15 e15_z => ?_)
      refine n_lconst (q := 0) dX12_cell_16 rfl (by decide) (fun r16 e16_z => ?_)
      refine n_ldc2 (n := 4) zk_RX12_341 dX12_cell_17 (by decide) (fun r17 e17_z => ?_)
      refine q_callS3 zm_RX12_138 dX12_cell_20 (Nat.le_of_ble_eq_true rfl) (Nat.le_of_ble_eq_true rfl) (Nat.le_of_ble_eq_true rfl) (Nat.le_of_ble_eq_true rfl) (Nat.le_of_ble_eq_true rfl) (s_X12_within G  (fun r20 e20 => ?_))
      refine t_ifeq (t := 30) dX12_cell_23 (by decide) (fun h23 => False.elim (by omega)) (fun h23 => ?_)
      refine n_iconst dX12_cell_26 (by decide) (fun r26 e26_z => ?_)
      refine r_goto (t := 31) dX12_cell_27 (by decide) ?_
      refine m_putI zf_RX12_77 (by intro C T N h_z; cases h_z; rfl) rfl dX12_cell_31 (shM_k hs) ?_
      obtain ⟨g31, hg31⟩ : ∃ g9, g9 = zu f A 4 r26 := ⟨_, rfl⟩
      rw [← hg31]
      have og31 : frM A [] [4] f g31 := by rw [hg31]; exact frM_zk frM_rf (by decide)
      have vg31 : g31 A 4 = r26 := by rw [hg31]; exact zu_at
      have vt31 : (g31 A 4).toInt = r26.toInt := by rw [vg31]
      have hk31 : ctKn (g31 (A + 1)) T := by rw [og31.2.1 1 (by decide) (by decide) (by decide)]; exact hk
      refine r_aloadR0 dX12_cell_34 ?_
      refine m_getV (x := (g31 A 4)) zf_RX12_77 rfl dX12_cell_35 (shM_k hs) (rfl) ?_
      refine t_ifle (t := 43) dX12_cell_38 (by decide) (fun h38 => ?_) (fun h38 => False.elim (by omega))
      refine r_iload2 dX12_cell_43 ?_
      refine n_iconst dX12_cell_44 (by decide) (fun r44 e44 => ?_)
      refine t_icge (t := 63) dX12_cell_45 (by decide) (fun h45 => ?_) (fun h45 => ?_)
      · refine r_aloadR0 dX12_cell_63 ?_
        refine r_aloadR0 dX12_cell_64 ?_
        refine q_callV0 zm_RX12_343 dX12_cell_65 (shM_k hs) (by decide) rfl (Nat.le_of_ble_eq_true rfl) (Nat.le_of_ble_eq_true rfl) (Nat.le_of_ble_eq_true rfl) (Nat.le_of_ble_eq_true rfl) (Nat.le_of_ble_eq_true rfl) (s_X12_now G hs hk31 hw (fun r65 g65 e65 o65 c65 => ?_))
        refine q_callV1 zm_RX12_302 dX12_cell_68 (shM_k hs) (by decide) rfl (Nat.le_of_ble_eq_true rfl) (Nat.le_of_ble_eq_true rfl) (Nat.le_of_ble_eq_true rfl) (Nat.le_of_ble_eq_true rfl) (Nat.le_of_ble_eq_true rfl) (s_X12_laysPlaces (L := tbL T) (n := tbC T) G hs e65 (by omega) c65 hrt (fun g68 o68 c68 => ?_))
        have hpc := c68 x.toInt.toNat (by omega)
        have ofr : frM A [6, 7] [4] f g68 := frM_tr (frM_su og31 (by decide) (by decide)) (frM_tr (frM_su o65 (by decide) (by decide)) (frM_su o68 (by decide) (by decide)))
        have oth : (g68 A 4).toInt = 0 := by rw [o68.2.2 4 (by decide), o65.2.2 4 (by decide)]; omega
        refine r_iload2 dX12_cell_71 ?_
        refine n_iconst dX12_cell_72 (by decide) (fun r72 e72_z => ?_)
        refine t_icne (t := 88) dX12_cell_73 (by decide) (fun h73 => ?_) (fun h73 => ?_)
        · refine r_iload2 dX12_cell_88 ?_
          refine n_iconst dX12_cell_89 (by decide) (fun r89 e89 => ?_)
          refine t_icne (t := 107) dX12_cell_90 (by decide) (fun h90 => ?_) (fun h90 => ?_)
          · refine r_aloadR0 dX12_cell_107 ?_
            refine m_getR (q := (A + 7)) zf_RX12_33 rfl dX12_cell_108 (shM_k hs) (shM_p7 hs) ?_
            refine r_iload1 dX12_cell_111 ?_
            refine m_iald (k := x.toInt.toNat) (x := (g68 (A + 7) x.toInt.toNat)) dX12_cell_112 (shM_k7 hs) (shM_n7 hs) (by omega) (by omega) (rfl) ?_
            refine n_iconst dX12_cell_113 (by decide) (fun r113 e113_z => ?_)
            refine n_iremc (c := 2) dX12_cell_114 e113_z (by decide) (by omega) (fun r114 e114_z => ?_)
            refine r_iret dX12_cell_115 rfl (Nat.le_of_ble_eq_true rfl) (Nat.le_of_ble_eq_true rfl) ?_
            refine hQ hc_z hy _ g68 ?_ ofr oth
            unfold celI
            first
              | (rw [if_neg (by omega), if_neg (by omega), if_pos (by omega)]; omega)
              | (rw [if_neg (by omega), if_neg (by omega), if_neg (by omega), if_pos (by omega)]; omega)
              | (rw [if_neg (by omega), if_neg (by omega), if_neg (by omega), if_neg (by omega)]
                 by_cases hb_z : lyUpAt (tbL T) (lyPlace (tbL T) (x.toInt.toNat : Nat)) = true
                 · rw [if_pos hb_z] at p3 ⊢; omega
                 · rw [if_neg hb_z] at p3 ⊢; omega)
          · refine r_aloadR0 dX12_cell_93 ?_
            refine m_getR (q := (A + 7)) zf_RX12_33 rfl dX12_cell_94 (shM_k hs) (shM_p7 hs) ?_
            refine r_iload1 dX12_cell_97 ?_
            refine m_iald (k := x.toInt.toNat) (x := (g68 (A + 7) x.toInt.toNat)) dX12_cell_98 (shM_k7 hs) (shM_n7 hs) (by omega) (by omega) (rfl) ?_
            refine n_iconst dX12_cell_99 (by decide) (fun r99 e99_z => ?_)
            refine n_idivc (c := 2) dX12_cell_100 e99_z (by decide) (by omega) (fun r100 e100_z => ?_)
            refine n_bipush dX12_cell_101 (by decide) (fun r101 e101 => ?_)
            refine n_iremc (c := 8) dX12_cell_103 e101 (by decide) (by omega) (fun r103 e103_z => ?_)
            refine r_goto (t := 115) dX12_cell_104 (by decide) ?_
            refine r_iret dX12_cell_115 rfl (Nat.le_of_ble_eq_true rfl) (Nat.le_of_ble_eq_true rfl) ?_
            refine hQ hc_z hy _ g68 ?_ ofr oth
            unfold celI
            first
              | (rw [if_neg (by omega), if_neg (by omega), if_pos (by omega)]; omega)
              | (rw [if_neg (by omega), if_neg (by omega), if_neg (by omega), if_pos (by omega)]; omega)
              | (rw [if_neg (by omega), if_neg (by omega), if_neg (by omega), if_neg (by omega)]
                 by_cases hb_z : lyUpAt (tbL T) (lyPlace (tbL T) (x.toInt.toNat : Nat)) = true
                 · rw [if_pos hb_z] at p3 ⊢; omega
                 · rw [if_neg hb_z] at p3 ⊢; omega)
        · refine r_aloadR0 dX12_cell_76 ?_
          refine m_getR (q := (A + 7)) zf_RX12_33 rfl dX12_cell_77 (shM_k hs) (shM_p7 hs) ?_
          refine r_iload1 dX12_cell_80 ?_
          refine m_iald (k := x.toInt.toNat) (x := (g68 (A + 7) x.toInt.toNat)) dX12_cell_81 (shM_k7 hs) (shM_n7 hs) (by omega) (by omega) (rfl) ?_
          refine n_bipush dX12_cell_82 (by decide) (fun r82 e82 => ?_)
          refine n_idivc (c := 16) dX12_cell_84 e82 (by decide) (by omega) (fun r84 e84 => ?_)
          refine r_goto (t := 115) dX12_cell_85 (by decide) ?_
          refine r_iret dX12_cell_115 rfl (Nat.le_of_ble_eq_true rfl) (Nat.le_of_ble_eq_true rfl) ?_
          refine hQ hc_z hy _ g68 ?_ ofr oth
          unfold celI
          first
            | (rw [if_neg (by omega), if_neg (by omega), if_pos (by omega)]; omega)
            | (rw [if_neg (by omega), if_neg (by omega), if_neg (by omega), if_pos (by omega)]; omega)
            | (rw [if_neg (by omega), if_neg (by omega), if_neg (by omega), if_neg (by omega)]
               by_cases hb_z : lyUpAt (tbL T) (lyPlace (tbL T) (x.toInt.toNat : Nat)) = true
               · rw [if_pos hb_z] at p3 ⊢; omega
               · rw [if_neg hb_z] at p3 ⊢; omega)
      · refine r_aloadR0 dX12_cell_48 ?_
        refine m_getR (q := (A + 1)) zf_RX12_9 rfl dX12_cell_49 (shM_k hs) (shM_p1 hs) ?_
        refine n_bipush dX12_cell_52 (by decide) (fun r52 e52 => ?_)
        refine n_bipush dX12_cell_54 (by decide) (fun r54 e54 => ?_)
        refine r_iload2 dX12_cell_56 ?_
        refine n_imulc dX12_cell_57 e54 (by omega) (fun r57 e57 => ?_)
        refine n_iadd dX12_cell_58 (by omega) (fun r58 e58 => ?_)
        refine r_iload1 dX12_cell_59 ?_
        refine n_iadd dX12_cell_60 (by omega) (fun r60 e60 => ?_)
        refine m_iald (k := (13 + 6 * y.toInt.toNat + x.toInt.toNat)) (x := f (A + 1) (13 + 6 * y.toInt.toNat + x.toInt.toNat)) dX12_cell_61 (shM_k1 hs) (shM_n1 hs) (by omega) (by omega) (by rw [og31.2.1 1 (by decide) (by decide) (by decide)]) ?_
        refine r_iret dX12_cell_62 rfl (Nat.le_of_ble_eq_true rfl) (Nat.le_of_ble_eq_true rfl) ?_
        refine hQ hc_z hy _ g31 ?_ (frM_su og31 (by decide) (by decide)) (by omega)
        unfold celI
        rcases (show y.toInt = 0 ∨ y.toInt = 1 by omega) with h9 | h9
        · rw [if_pos h9, show (13 + 6 * y.toInt.toNat + x.toInt.toNat) = 7 + 6 + x.toInt.toNat by omega]; exact hmx.1
        · rw [if_neg (by omega), if_pos h9, show (13 + 6 * y.toInt.toNat + x.toInt.toNat) = 7 + 12 + x.toInt.toNat by omega]; exact hmx.2
    · refine r_aloadR0 dX12_cell_0 ?_
      refine r_aloadR0 dX12_cell_1 ?_
      refine r_iload1 dX12_cell_2 ?_
      refine n_i2l dX12_cell_3 (fun r3 e3_z => ?_)
      refine q_callV1 zm_RX12_337 dX12_cell_4 (shM_k hs) (by decide) rfl (Nat.le_of_ble_eq_true rfl) (Nat.le_of_ble_eq_true rfl) (Nat.le_of_ble_eq_true rfl) (Nat.le_of_ble_eq_true rfl) (Nat.le_of_ble_eq_true rfl) (s_X12_isCell G hs hk.1.2.1 hn6 (fun r4 e4_z => ?_))
      refine t_ifne (t := 14) dX12_cell_7 (by decide) (fun h7 => ?_) (fun h7 => False.elim (by omega))
      refine r_iload2 dX12_cell_14 ?_
      refine n_i2l dX12_cell_15 (fun r15 e15_z => ?_)
      refine n_lconst (q := 0) dX12_cell_16 rfl (by decide) (fun r16 e16_z => ?_)
      refine n_ldc2 (n := 4) zk_RX12_341 dX12_cell_17 (by decide) (fun r17 e17_z => ?_)
      refine q_callS3 zm_RX12_138 dX12_cell_20 (Nat.le_of_ble_eq_true rfl) (Nat.le_of_ble_eq_true rfl) (Nat.le_of_ble_eq_true rfl) (Nat.le_of_ble_eq_true rfl) (Nat.le_of_ble_eq_true rfl) (s_X12_within G  (fun r20 e20 => ?_))
      refine t_ifeq (t := 30) dX12_cell_23 (by decide) (fun h23 => ?_) (fun h23 => False.elim (by omega))
      refine n_iconst dX12_cell_30 (by decide) (fun r30 e30 => ?_)
      refine m_putI zf_RX12_77 (by intro C T N h_z; cases h_z; rfl) rfl dX12_cell_31 (shM_k hs) ?_
      obtain ⟨g31, hg31⟩ : ∃ g9, g9 = zu f A 4 r30 := ⟨_, rfl⟩
      rw [← hg31]
      have og31 : frM A [] [4] f g31 := by rw [hg31]; exact frM_zk frM_rf (by decide)
      have vg31 : g31 A 4 = r30 := by rw [hg31]; exact zu_at
      have vt31 : (g31 A 4).toInt = r30.toInt := by rw [vg31]
      have hk31 : ctKn (g31 (A + 1)) T := by rw [og31.2.1 1 (by decide) (by decide) (by decide)]; exact hk
      refine r_aloadR0 dX12_cell_34 ?_
      refine m_getV (x := (g31 A 4)) zf_RX12_77 rfl dX12_cell_35 (shM_k hs) (rfl) ?_
      refine t_ifle (t := 43) dX12_cell_38 (by decide) (fun h38 => False.elim (by omega)) (fun h38 => ?_)
      refine n_iconst dX12_cell_41 (by decide) (fun r41 e41_z => ?_)
      refine r_iret dX12_cell_42 rfl (Nat.le_of_ble_eq_true rfl) (Nat.le_of_ble_eq_true rfl) ?_
      exact hT2 hc_z hy _ g31 og31 (by omega)
  · refine r_aloadR0 dX12_cell_0 ?_
    refine r_aloadR0 dX12_cell_1 ?_
    refine r_iload1 dX12_cell_2 ?_
    refine n_i2l dX12_cell_3 (fun r3 e3_z => ?_)
    refine q_callV1 zm_RX12_337 dX12_cell_4 (shM_k hs) (by decide) rfl (Nat.le_of_ble_eq_true rfl) (Nat.le_of_ble_eq_true rfl) (Nat.le_of_ble_eq_true rfl) (Nat.le_of_ble_eq_true rfl) (Nat.le_of_ble_eq_true rfl) (s_X12_isCell G hs hk.1.2.1 hn6 (fun r4 e4_z => ?_))
    refine t_ifne (t := 14) dX12_cell_7 (by decide) (fun h7 => False.elim (by omega)) (fun h7 => ?_)
    refine n_iconst dX12_cell_10 (by decide) (fun r10 e10_z => ?_)
    refine r_goto (t := 31) dX12_cell_11 (by decide) ?_
    refine m_putI zf_RX12_77 (by intro C T N h_z; cases h_z; rfl) rfl dX12_cell_31 (shM_k hs) ?_
    obtain ⟨g31, hg31⟩ : ∃ g9, g9 = zu f A 4 r10 := ⟨_, rfl⟩
    rw [← hg31]
    have og31 : frM A [] [4] f g31 := by rw [hg31]; exact frM_zk frM_rf (by decide)
    have vg31 : g31 A 4 = r10 := by rw [hg31]; exact zu_at
    have vt31 : (g31 A 4).toInt = r10.toInt := by rw [vg31]
    have hk31 : ctKn (g31 (A + 1)) T := by rw [og31.2.1 1 (by decide) (by decide) (by decide)]; exact hk
    refine r_aloadR0 dX12_cell_34 ?_
    refine m_getV (x := (g31 A 4)) zf_RX12_77 rfl dX12_cell_35 (shM_k hs) (rfl) ?_
    refine t_ifle (t := 43) dX12_cell_38 (by decide) (fun h38 => False.elim (by omega)) (fun h38 => ?_)
    refine n_iconst dX12_cell_41 (by decide) (fun r41 e41_z => ?_)
    refine r_iret dX12_cell_42 rfl (Nat.le_of_ble_eq_true rfl) (Nat.le_of_ble_eq_true rfl) ?_
    exact hT1 hc_z _ g31 og31 (by omega)
set_option maxHeartbeats 4000000 in
set_option maxRecDepth 100000 in
theorem s_X12_crease {g : zGT} {w : zW} {f : Nat → Nat → Int32} {j : Nat → Nat → Int64} {A : Nat} {T : zTb} {x : Int32} {Q : Option Value → zW → Prop} {QX : String → zW → Prop} (G : zGok g) (hs : shM w A) (hk : ctKn (f (A + 1)) T) (hw : wfT T) (hT1 : ¬ (0 ≤ x.toInt ∧ x.toInt + 1 < (tbC T : Nat)) → ∀ (r : Int32) f2_z, frM A [] [4] f f2_z → (f2_z A 4).toInt = 1 → Q (some (.int r)) (zM w f2_z j)) (hQ : (0 ≤ x.toInt ∧ x.toInt + 1 < (tbC T : Nat)) → ∀ (r : Int32) f2_z, r.toInt = (lyCrease (tbL T) x.toInt.toNat : Nat) → frM A [6, 7] [4] f f2_z → (f2_z A 4).toInt = 0 → Q (some (.int r)) (zM w f2_z j)) : zC g 6 yX12_crease cX12_crease 2 (some .int) [.ref A, .int x] (zM w f j) (0, 0) Q QX := by
  refine zC_of G (by decide +kernel) (Nat.le_of_ble_eq_true rfl) ?_
  have hk9 := hk
  obtain ⟨⟨k0_z, k1_z, k2_z, k3_z, k4_z, k5_z, k6_z⟩, km, kg, kp, kl1, kl2, kl3⟩ := hk9
  have km9 := km
  obtain ⟨m1_z, m2_z, m3_z⟩ := km9
  have hn6 : tbC T ≤ 6 := hw.2.1
  have hg4 : tbG T ≤ 4 := hw.2.2.1
  have hwm := hw.2.2.2.2.2.2.2.1
  have hml : T.2.2.1.2.length ≤ 5 := hwm.2.1
  have hm99 := hwm.2.2
  have hrt := wfT_rch hw
  have hLl : (tbL T).length ≤ 6 := Nat.le_trans (rch_cell hrt).2.2.2.2 hn6
  have hpl : T.2.2.2.length ≤ 10 := hw.2.2.2.2.2.2.2.2.1
  refine r_aloadR0 dX12_crease_0 ?_
  refine n_iconst dX12_crease_1 (by decide) (fun r1 e1_z => ?_)
  refine m_putI zf_RX12_77 (by intro C T N h_z; cases h_z; rfl) rfl dX12_crease_2 (shM_k hs) ?_
  obtain ⟨g2, hg2⟩ : ∃ g9, g9 = zu f A 4 r1 := ⟨_, rfl⟩
  rw [← hg2]
  have og2 : frM A [] [4] f g2 := by rw [hg2]; exact frM_zk frM_rf (by decide)
  have vg2 : g2 A 4 = r1 := by rw [hg2]; exact zu_at
  have vt2 : (g2 A 4).toInt = r1.toInt := by rw [vg2]
  have hk2 : ctKn (g2 (A + 1)) T := by rw [og2.2.1 1 (by decide) (by decide) (by decide)]; exact hk
  refine r_iload1 dX12_crease_5 ?_
  refine n_i2l dX12_crease_6 (fun r6 e6_z => ?_)
  refine n_lconst (q := 0) dX12_crease_7 rfl (by decide) (fun r7 e7_z => ?_)
  refine r_aloadR0 dX12_crease_8 ?_
  refine q_callV0 zm_RX12_253 dX12_crease_9 (shM_k hs) (by decide) rfl (Nat.le_of_ble_eq_true rfl) (Nat.le_of_ble_eq_true rfl) (Nat.le_of_ble_eq_true rfl) (Nat.le_of_ble_eq_true rfl) (Nat.le_of_ble_eq_true rfl) (s_X12_cells G hs hk2.1.2.1 (fun r9 e9_z => ?_))
  refine n_iconst dX12_crease_12 (by decide) (fun r12 e12_z => ?_)
  refine n_isub dX12_crease_13 (by omega) (fun r13 e13_z => ?_)
  refine n_i2l dX12_crease_14 (fun r14 e14_z => ?_)
  refine q_callS3 zm_RX12_138 dX12_crease_15 (Nat.le_of_ble_eq_true rfl) (Nat.le_of_ble_eq_true rfl) (Nat.le_of_ble_eq_true rfl) (Nat.le_of_ble_eq_true rfl) (Nat.le_of_ble_eq_true rfl) (s_X12_within G  (fun r15 e15_z => ?_))
  refine t_ifne (t := 27) dX12_crease_18 (by decide) (fun h18 => ?_) (fun h18 => ?_)
  · refine r_aloadR0 dX12_crease_27 ?_
    refine r_aloadR0 dX12_crease_28 ?_
    refine q_callV0 zm_RX12_343 dX12_crease_29 (shM_k hs) (by decide) rfl (Nat.le_of_ble_eq_true rfl) (Nat.le_of_ble_eq_true rfl) (Nat.le_of_ble_eq_true rfl) (Nat.le_of_ble_eq_true rfl) (Nat.le_of_ble_eq_true rfl) (s_X12_now G hs hk2 hw (fun r29 g29 e29 o29 c29 => ?_))
    refine q_callV1 zm_RX12_302 dX12_crease_32 (shM_k hs) (by decide) rfl (Nat.le_of_ble_eq_true rfl) (Nat.le_of_ble_eq_true rfl) (Nat.le_of_ble_eq_true rfl) (Nat.le_of_ble_eq_true rfl) (Nat.le_of_ble_eq_true rfl) (s_X12_laysPlaces (L := tbL T) (n := tbC T) G hs e29 (by omega) c29 hrt (fun g32 o32 c32 => ?_))
    refine r_aloadR0 dX12_crease_35 ?_
    refine r_iload1 dX12_crease_36 ?_
    refine q_callV1 zm_RX12_305 dX12_crease_37 (shM_k hs) (by decide) rfl (Nat.le_of_ble_eq_true rfl) (Nat.le_of_ble_eq_true rfl) (Nat.le_of_ble_eq_true rfl) (Nat.le_of_ble_eq_true rfl) (Nat.le_of_ble_eq_true rfl) (s_X12_creaseOf (n := tbC T) (k := x.toInt.toNat) G hs c32 hrt (by omega) (by omega) (fun r37 e37 => ?_))
    refine r_iret dX12_crease_40 rfl (Nat.le_of_ble_eq_true rfl) (Nat.le_of_ble_eq_true rfl) ?_
    exact hQ (by omega) _ g32 (by omega) (frM_tr (frM_su og2 (by decide) (by decide)) (frM_tr (frM_su o29 (by decide) (by decide)) (frM_su o32 (by decide) (by decide)))) (by rw [o32.2.2 4 (by decide), o29.2.2 4 (by decide)]; omega)
  · refine r_aloadR0 dX12_crease_21 ?_
    refine n_iconst dX12_crease_22 (by decide) (fun r22 e22_z => ?_)
    refine q_callV1 zm_RX12_244 dX12_crease_23 (shM_k hs) (by decide) rfl (Nat.le_of_ble_eq_true rfl) (Nat.le_of_ble_eq_true rfl) (Nat.le_of_ble_eq_true rfl) (Nat.le_of_ble_eq_true rfl) (Nat.le_of_ble_eq_true rfl) (s_X12_fails G hs (fun r23 g23 e23_z o23 v23 => ?_))
    refine r_iret dX12_crease_26 rfl (Nat.le_of_ble_eq_true rfl) (Nat.le_of_ble_eq_true rfl) ?_
    exact hT1 (by omega) _ g23 (frM_tr (frM_su og2 (by decide) (by decide)) (frM_su o23 (by decide) (by decide))) (by rw [v23]; omega)
set_option maxHeartbeats 4000000 in
set_option maxRecDepth 100000 in
theorem s_X12_folded {g : zGT} {w : zW} {f : Nat → Nat → Int32} {j : Nat → Nat → Int64} {A : Nat} {T : zTb} {x : Int32} {Q : Option Value → zW → Prop} {QX : String → zW → Prop} (G : zGok g) (hs : shM w A) (hk : ctKn (f (A + 1)) T) (hw : wfT T) (hT1 : ¬ 0 ≤ x.toInt → ∀ (r : Int32) f2_z, frM A [] [4] f f2_z → (f2_z A 4).toInt = 1 → Q (some (.int r)) (zM w f2_z j)) (hQ : 0 ≤ x.toInt → ∀ (r : Int32) f2_z, r.toInt = (moFold T.2.2.1.2 x.toInt).toInt → frM A [] [4] f f2_z → (f2_z A 4).toInt = 0 → Q (some (.int r)) (zM w f2_z j)) : zC g 2 yX12_folded cX12_folded 2 (some .int) [.ref A, .int x] (zM w f j) (0, 0) Q QX := by
  refine zC_of G (by decide +kernel) (Nat.le_of_ble_eq_true rfl) ?_
  have hk9 := hk
  obtain ⟨⟨k0_z, k1_z, k2_z, k3_z, k4_z, k5_z, k6_z⟩, km, kg, kp, kl1, kl2, kl3⟩ := hk9
  have km9 := km
  obtain ⟨m1_z, m2_z, m3_z⟩ := km9
  have hn6 : tbC T ≤ 6 := hw.2.1
  have hg4 : tbG T ≤ 4 := hw.2.2.1
  have hwm := hw.2.2.2.2.2.2.2.1
  have hml : T.2.2.1.2.length ≤ 5 := hwm.2.1
  have hm99 := hwm.2.2
  have hrt := wfT_rch hw
  have hLl : (tbL T).length ≤ 6 := Nat.le_trans (rch_cell hrt).2.2.2.2 hn6
  have hpl : T.2.2.2.length ≤ 10 := hw.2.2.2.2.2.2.2.2.1
  have hq7 : (f (A + 1) 7).toInt = (T.2.2.1.2.length : Nat) := km.1
  rcases Nat.lt_or_ge x.toInt.toNat T.2.2.1.2.length with hxl | hxl
  · obtain ⟨d, hd_z⟩ : ∃ d, T.2.2.1.2[x.toInt.toNat]? = some d := ⟨_, List.getElem?_eq_getElem hxl⟩
    refine r_aloadR0 dX12_folded_0 ?_
    refine n_iconst dX12_folded_1 (by decide) (fun r1 e1_z => ?_)
    refine m_putI zf_RX12_77 (by intro C T N h_z; cases h_z; rfl) rfl dX12_folded_2 (shM_k hs) ?_
    obtain ⟨g2, hg2⟩ : ∃ g9, g9 = zu f A 4 r1 := ⟨_, rfl⟩
    rw [← hg2]
    have og2 : frM A [] [4] f g2 := by rw [hg2]; exact frM_zk frM_rf (by decide)
    have vg2 : g2 A 4 = r1 := by rw [hg2]; exact zu_at
    have vt2 : (g2 A 4).toInt = r1.toInt := by rw [vg2]
    have hk2 : ctKn (g2 (A + 1)) T := by rw [og2.2.1 1 (by decide) (by decide) (by decide)]; exact hk
    refine r_iload1 dX12_folded_5 ?_
    refine t_ifge (t := 15) dX12_folded_6 (by decide) (fun h6 => ?_) (fun h6 => ?_)
    · refine r_iload1 dX12_folded_15 ?_
      refine r_aloadR0 dX12_folded_16 ?_
      have hq72 : (g2 (A + 1) 7).toInt = (T.2.2.1.2.length : Nat) := hk2.2.1.1
      refine m_getR (q := (A + 1)) zf_RX12_9 rfl dX12_folded_17 (shM_k hs) (shM_p1 hs) ?_
      refine n_bipush dX12_folded_20 (by decide) (fun r20 e20 => ?_)
      refine m_iald (k := 7) (x := (g2 (A + 1) 7)) dX12_folded_22 (shM_k1 hs) (shM_n1 hs) (by omega) (by omega) (rfl) ?_
      refine t_icge (t := 38) dX12_folded_23 (by decide) (fun h23 => False.elim (by omega)) (fun h23 => ?_)
      refine r_aloadR0 dX12_folded_26 ?_
      refine m_getR (q := (A + 1)) zf_RX12_9 rfl dX12_folded_27 (shM_k hs) (shM_p1 hs) ?_
      refine n_bipush dX12_folded_30 (by decide) (fun r30 e30 => ?_)
      refine r_iload1 dX12_folded_32 ?_
      refine n_iadd dX12_folded_33 (by omega) (fun r33 e33_z => ?_)
      refine m_iald (k := (8 + x.toInt.toNat)) (x := (g2 (A + 1) ((8 + x.toInt.toNat)))) dX12_folded_34 (shM_k1 hs) (shM_n1 hs) (by omega) (by omega) (rfl) ?_
      refine r_goto (t := 39) dX12_folded_35 (by decide) ?_
      refine r_iret dX12_folded_39 rfl (Nat.le_of_ble_eq_true rfl) (Nat.le_of_ble_eq_true rfl) ?_
      refine hQ (by omega) _ g2 ?_ og2 (by omega)
      have hd9 := hk2.2.1.2.1 _ d hd_z
      have hdb := Int32.toInt_lt (g2 (A + 1) (8 + x.toInt.toNat))
      have hdc : (g2 (A + 1) (8 + x.toInt.toNat)).toInt = (d : Nat) := hd9
      unfold moFold
      rw [if_pos (by omega), hd_z]
      show _ = (nI d).toInt
      rw [zi_n (by omega)]
      exact hdc
    · refine r_aloadR0 dX12_folded_9 ?_
      refine n_iconst dX12_folded_10 (by decide) (fun r10 e10_z => ?_)
      refine q_callV1 zm_RX12_244 dX12_folded_11 (shM_k hs) (by decide) rfl (Nat.le_of_ble_eq_true rfl) (Nat.le_of_ble_eq_true rfl) (Nat.le_of_ble_eq_true rfl) (Nat.le_of_ble_eq_true rfl) (Nat.le_of_ble_eq_true rfl) (s_X12_fails G hs (fun r11 g11 e11_z o11 v11 => ?_))
      refine r_iret dX12_folded_14 rfl (Nat.le_of_ble_eq_true rfl) (Nat.le_of_ble_eq_true rfl) ?_
      exact hT1 (by omega) _ g11 (frM_tr (frM_su og2 (by decide) (by decide)) (frM_su o11 (by decide) (by decide))) (by rw [v11]; omega)
  · refine r_aloadR0 dX12_folded_0 ?_
    refine n_iconst dX12_folded_1 (by decide) (fun r1 e1_z => ?_)
    refine m_putI zf_RX12_77 (by intro C T N h_z; cases h_z; rfl) rfl dX12_folded_2 (shM_k hs) ?_
    obtain ⟨g2, hg2⟩ : ∃ g9, g9 = zu f A 4 r1 := ⟨_, rfl⟩
    rw [← hg2]
    have og2 : frM A [] [4] f g2 := by rw [hg2]; exact frM_zk frM_rf (by decide)
    have vg2 : g2 A 4 = r1 := by rw [hg2]; exact zu_at
    have vt2 : (g2 A 4).toInt = r1.toInt := by rw [vg2]
    have hk2 : ctKn (g2 (A + 1)) T := by rw [og2.2.1 1 (by decide) (by decide) (by decide)]; exact hk
    refine r_iload1 dX12_folded_5 ?_
    refine t_ifge (t := 15) dX12_folded_6 (by decide) (fun h6 => ?_) (fun h6 => ?_)
    · refine r_iload1 dX12_folded_15 ?_
      refine r_aloadR0 dX12_folded_16 ?_
      have hq72 : (g2 (A + 1) 7).toInt = (T.2.2.1.2.length : Nat) := hk2.2.1.1
      refine m_getR (q := (A + 1)) zf_RX12_9 rfl dX12_folded_17 (shM_k hs) (shM_p1 hs) ?_
      refine n_bipush dX12_folded_20 (by decide) (fun r20 e20 => ?_)
      refine m_iald (k := 7) (x := (g2 (A + 1) 7)) dX12_folded_22 (shM_k1 hs) (shM_n1 hs) (by omega) (by omega) (rfl) ?_
      refine t_icge (t := 38) dX12_folded_23 (by decide) (fun h23 => ?_) (fun h23 => False.elim (by omega))
      refine n_iconst dX12_folded_38 (by decide) (fun r38 e38 => ?_)
      refine r_iret dX12_folded_39 rfl (Nat.le_of_ble_eq_true rfl) (Nat.le_of_ble_eq_true rfl) ?_
      refine hQ (by omega) _ g2 ?_ og2 (by omega)
      unfold moFold
      rw [if_pos (by omega), List.getElem?_eq_none hxl]
      exact e38
    · refine r_aloadR0 dX12_folded_9 ?_
      refine n_iconst dX12_folded_10 (by decide) (fun r10 e10_z => ?_)
      refine q_callV1 zm_RX12_244 dX12_folded_11 (shM_k hs) (by decide) rfl (Nat.le_of_ble_eq_true rfl) (Nat.le_of_ble_eq_true rfl) (Nat.le_of_ble_eq_true rfl) (Nat.le_of_ble_eq_true rfl) (Nat.le_of_ble_eq_true rfl) (s_X12_fails G hs (fun r11 g11 e11_z o11 v11 => ?_))
      refine r_iret dX12_folded_14 rfl (Nat.le_of_ble_eq_true rfl) (Nat.le_of_ble_eq_true rfl) ?_
      exact hT1 (by omega) _ g11 (frM_tr (frM_su og2 (by decide) (by decide)) (frM_su o11 (by decide) (by decide))) (by rw [v11]; omega)
set_option maxHeartbeats 4000000 in
set_option maxRecDepth 100000 in
theorem s_X12_worth {g : zGT} {w : zW} {f : Nat → Nat → Int32} {j : Nat → Nat → Int64} {A : Nat} {T : zTb} {Q : Option Value → zW → Prop} {QX : String → zW → Prop} (G : zGok g) (hs : shM w A) (hk : ctKn (f (A + 1)) T) (hw : wfT T) (hQ : ∀ (r : Int32) f2_z, r.toInt = worV T (tbL T) T.2.2.1.2.length → frM A [6, 8, 9] [4] f f2_z → (f2_z A 4).toInt = 0 → Q (some (.int r)) (zM w f2_z j)) : zC g 7 yX12_worth cX12_worth 1 (some .int) [.ref A] (zM w f j) (0, 0) Q QX := by
  refine zC_of G (by decide +kernel) (Nat.le_of_ble_eq_true rfl) ?_
  have hk9 := hk
  obtain ⟨⟨k0_z, k1_z, k2_z, k3_z, k4_z, k5_z, k6_z⟩, km, kg, kp, kl1, kl2, kl3⟩ := hk9
  have km9 := km
  obtain ⟨m1_z, m2_z, m3_z⟩ := km9
  have hn6 : tbC T ≤ 6 := hw.2.1
  have hg4 : tbG T ≤ 4 := hw.2.2.1
  have hwm := hw.2.2.2.2.2.2.2.1
  have hml : T.2.2.1.2.length ≤ 5 := hwm.2.1
  have hm99 := hwm.2.2
  have hrt := wfT_rch hw
  have hLl : (tbL T).length ≤ 6 := Nat.le_trans (rch_cell hrt).2.2.2.2 hn6
  have hpl : T.2.2.2.length ≤ 10 := hw.2.2.2.2.2.2.2.2.1
  refine r_aloadR0 dX12_worth_0 ?_
  refine n_iconst dX12_worth_1 (by decide) (fun r1 e1_z => ?_)
  refine m_putI zf_RX12_77 (by intro C T N h_z; cases h_z; rfl) rfl dX12_worth_2 (shM_k hs) ?_
  obtain ⟨g2, hg2⟩ : ∃ g9, g9 = zu f A 4 r1 := ⟨_, rfl⟩
  rw [← hg2]
  have og2 : frM A [] [4] f g2 := by rw [hg2]; exact frM_zk frM_rf (by decide)
  have vg2 : g2 A 4 = r1 := by rw [hg2]; exact zu_at
  have vt2 : (g2 A 4).toInt = r1.toInt := by rw [vg2]
  have hk2 : ctKn (g2 (A + 1)) T := by rw [og2.2.1 1 (by decide) (by decide) (by decide)]; exact hk
  refine r_aloadR0 dX12_worth_5 ?_
  refine r_aloadR0 dX12_worth_6 ?_
  refine q_callV0 zm_RX12_343 dX12_worth_7 (shM_k hs) (by decide) rfl (Nat.le_of_ble_eq_true rfl) (Nat.le_of_ble_eq_true rfl) (Nat.le_of_ble_eq_true rfl) (Nat.le_of_ble_eq_true rfl) (Nat.le_of_ble_eq_true rfl) (s_X12_now G hs hk2 hw (fun r7 g7 e7_z o7 c7_z => ?_))
  refine q_callV1 zm_RX12_349 dX12_worth_10 (shM_k hs) (by decide) rfl (Nat.le_of_ble_eq_true rfl) (Nat.le_of_ble_eq_true rfl) (Nat.le_of_ble_eq_true rfl) (Nat.le_of_ble_eq_true rfl) (Nat.le_of_ble_eq_true rfl) (s_X12_wor (L := tbL T) (T := T) G hs (by rw [o7.2.1 1 (by decide) (by decide) (by decide)]; exact hk2) hw e7_z (by omega) c7_z hrt (fun r10 g10 e10_z o10 => ?_))
  refine r_iret dX12_worth_13 rfl (Nat.le_of_ble_eq_true rfl) (Nat.le_of_ble_eq_true rfl) ?_
  exact hQ _ g10 e10_z (frM_tr (frM_su og2 (by decide) (by decide)) (frM_tr (frM_su o7 (by decide) (by decide)) (frM_su o10 (by decide) (by decide)))) (by rw [o10.2.2 4 (by decide), o7.2.2 4 (by decide)]; omega)
set_option maxHeartbeats 4000000 in
set_option maxRecDepth 100000 in
theorem s_X12_holds {g : zGT} {w : zW} {f : Nat → Nat → Int32} {j : Nat → Nat → Int64} {A : Nat} {T : zTb} {Q : Option Value → zW → Prop} {QX : String → zW → Prop} (G : zGok g) (hs : shM w A) (hk : ctKn (f (A + 1)) T) (hw : wfT T) (hQ : ∀ (r : Int32) f2_z, (r.toInt = 1 ∧ holV T (tbL T) T.2.2.1.2.length ≠ 0 ∨ r.toInt = 0 ∧ holV T (tbL T) T.2.2.1.2.length = 0) → frM A [6, 8, 9] [4] f f2_z → (f2_z A 4).toInt = 0 → Q (some (.int r)) (zM w f2_z j)) : zC g 7 yX12_holds cX12_holds 1 (some .boolean) [.ref A] (zM w f j) (0, 0) Q QX := by
  refine zC_of G (by decide +kernel) (Nat.le_of_ble_eq_true rfl) ?_
  have hk9 := hk
  obtain ⟨⟨k0_z, k1_z, k2_z, k3_z, k4_z, k5_z, k6_z⟩, km, kg, kp, kl1, kl2, kl3⟩ := hk9
  have km9 := km
  obtain ⟨m1_z, m2_z, m3_z⟩ := km9
  have hn6 : tbC T ≤ 6 := hw.2.1
  have hg4 : tbG T ≤ 4 := hw.2.2.1
  have hwm := hw.2.2.2.2.2.2.2.1
  have hml : T.2.2.1.2.length ≤ 5 := hwm.2.1
  have hm99 := hwm.2.2
  have hrt := wfT_rch hw
  have hLl : (tbL T).length ≤ 6 := Nat.le_trans (rch_cell hrt).2.2.2.2 hn6
  have hpl : T.2.2.2.length ≤ 10 := hw.2.2.2.2.2.2.2.2.1
  refine r_aloadR0 dX12_holds_0 ?_
  refine n_iconst dX12_holds_1 (by decide) (fun r1 e1_z => ?_)
  refine m_putI zf_RX12_77 (by intro C T N h_z; cases h_z; rfl) rfl dX12_holds_2 (shM_k hs) ?_
  obtain ⟨g2, hg2⟩ : ∃ g9, g9 = zu f A 4 r1 := ⟨_, rfl⟩
  rw [← hg2]
  have og2 : frM A [] [4] f g2 := by rw [hg2]; exact frM_zk frM_rf (by decide)
  have vg2 : g2 A 4 = r1 := by rw [hg2]; exact zu_at
  have vt2 : (g2 A 4).toInt = r1.toInt := by rw [vg2]
  have hk2 : ctKn (g2 (A + 1)) T := by rw [og2.2.1 1 (by decide) (by decide) (by decide)]; exact hk
  refine r_aloadR0 dX12_holds_5 ?_
  refine r_aloadR0 dX12_holds_6 ?_
  refine q_callV0 zm_RX12_343 dX12_holds_7 (shM_k hs) (by decide) rfl (Nat.le_of_ble_eq_true rfl) (Nat.le_of_ble_eq_true rfl) (Nat.le_of_ble_eq_true rfl) (Nat.le_of_ble_eq_true rfl) (Nat.le_of_ble_eq_true rfl) (s_X12_now G hs hk2 hw (fun r7 g7 e7_z o7 c7_z => ?_))
  refine q_callV1 zm_RX12_352 dX12_holds_10 (shM_k hs) (by decide) rfl (Nat.le_of_ble_eq_true rfl) (Nat.le_of_ble_eq_true rfl) (Nat.le_of_ble_eq_true rfl) (Nat.le_of_ble_eq_true rfl) (Nat.le_of_ble_eq_true rfl) (s_X12_hol (L := tbL T) (T := T) G hs (by rw [o7.2.1 1 (by decide) (by decide) (by decide)]; exact hk2) hw e7_z (by omega) c7_z hrt (fun r10 g10 e10_z o10 => ?_))
  refine m_zret dX12_holds_13 rfl (by omega) (Nat.le_of_ble_eq_true rfl) (Nat.le_of_ble_eq_true rfl) ?_
  exact hQ _ g10 e10_z (frM_tr (frM_su og2 (by decide) (by decide)) (frM_tr (frM_su o7 (by decide) (by decide)) (frM_su o10 (by decide) (by decide)))) (by rw [o10.2.2 4 (by decide), o7.2.2 4 (by decide)]; omega)
set_option maxHeartbeats 4000000 in
set_option maxRecDepth 100000 in
theorem s_X12_likes {g : zGT} {w : zW} {f : Nat → Nat → Int32} {j : Nat → Nat → Int64} {A : Nat} {T : zTb} {x : Int32} {Q : Option Value → zW → Prop} {QX : String → zW → Prop} (G : zGok g) (hs : shM w A) (hk : ctKn (f (A + 1)) T) (hw : wfT T) (hT1 : ¬ (0 ≤ x.toInt ∧ x.toInt < (tbG T : Nat)) → ∀ (r : Int32) f2_z, frM A [] [4] f f2_z → (f2_z A 4).toInt = 1 → Q (some (.int r)) (zM w f2_z j)) (hQ : (0 ≤ x.toInt ∧ x.toInt < (tbG T : Nat)) → ∀ (r : Int32) f2_z, r.toInt = likV T (tbL T) T.2.2.1.2.length x.toInt.toNat → frM A [6, 8, 9] [4] f f2_z → (f2_z A 4).toInt = 0 → Q (some (.int r)) (zM w f2_z j)) : zC g 7 yX12_likes cX12_likes 2 (some .int) [.ref A, .int x] (zM w f j) (0, 0) Q QX := by
  refine zC_of G (by decide +kernel) (Nat.le_of_ble_eq_true rfl) ?_
  have hk9 := hk
  obtain ⟨⟨k0_z, k1_z, k2_z, k3_z, k4_z, k5_z, k6_z⟩, km, kg, kp, kl1, kl2, kl3⟩ := hk9
  have km9 := km
  obtain ⟨m1_z, m2_z, m3_z⟩ := km9
  have hn6 : tbC T ≤ 6 := hw.2.1
  have hg4 : tbG T ≤ 4 := hw.2.2.1
  have hwm := hw.2.2.2.2.2.2.2.1
  have hml : T.2.2.1.2.length ≤ 5 := hwm.2.1
  have hm99 := hwm.2.2
  have hrt := wfT_rch hw
  have hLl : (tbL T).length ≤ 6 := Nat.le_trans (rch_cell hrt).2.2.2.2 hn6
  have hpl : T.2.2.2.length ≤ 10 := hw.2.2.2.2.2.2.2.2.1
  refine r_aloadR0 dX12_likes_0 ?_
  refine n_iconst dX12_likes_1 (by decide) (fun r1 e1_z => ?_)
  refine m_putI zf_RX12_77 (by intro C T N h_z; cases h_z; rfl) rfl dX12_likes_2 (shM_k hs) ?_
  obtain ⟨g2, hg2⟩ : ∃ g9, g9 = zu f A 4 r1 := ⟨_, rfl⟩
  rw [← hg2]
  have og2 : frM A [] [4] f g2 := by rw [hg2]; exact frM_zk frM_rf (by decide)
  have vg2 : g2 A 4 = r1 := by rw [hg2]; exact zu_at
  have vt2 : (g2 A 4).toInt = r1.toInt := by rw [vg2]
  have hk2 : ctKn (g2 (A + 1)) T := by rw [og2.2.1 1 (by decide) (by decide) (by decide)]; exact hk
  refine r_iload1 dX12_likes_5 ?_
  refine n_i2l dX12_likes_6 (fun r6 e6_z => ?_)
  refine n_lconst (q := 0) dX12_likes_7 rfl (by decide) (fun r7 e7_z => ?_)
  refine r_aloadR0 dX12_likes_8 ?_
  have hq2 : (g2 (A + 1) 2).toInt = (tbG T : Nat) := hk2.1.2.2.1
  refine m_getR (q := (A + 1)) zf_RX12_9 rfl dX12_likes_9 (shM_k hs) (shM_p1 hs) ?_
  refine n_iconst dX12_likes_12 (by decide) (fun r12 e12_z => ?_)
  refine m_iald (k := 2) (x := (g2 (A + 1) 2)) dX12_likes_13 (shM_k1 hs) (shM_n1 hs) (by omega) (by omega) (rfl) ?_
  refine n_iconst dX12_likes_14 (by decide) (fun r14 e14_z => ?_)
  refine n_isub dX12_likes_15 (by omega) (fun r15 e15_z => ?_)
  refine n_i2l dX12_likes_16 (fun r16 e16_z => ?_)
  refine q_callS3 zm_RX12_138 dX12_likes_17 (Nat.le_of_ble_eq_true rfl) (Nat.le_of_ble_eq_true rfl) (Nat.le_of_ble_eq_true rfl) (Nat.le_of_ble_eq_true rfl) (Nat.le_of_ble_eq_true rfl) (s_X12_within G  (fun r17 e17_z => ?_))
  refine t_ifeq (t := 35) dX12_likes_20 (by decide) (fun h20 => ?_) (fun h20 => ?_)
  · refine r_aloadR0 dX12_likes_35 ?_
    refine n_iconst dX12_likes_36 (by decide) (fun r36 e36 => ?_)
    refine q_callV1 zm_RX12_244 dX12_likes_37 (shM_k hs) (by decide) rfl (Nat.le_of_ble_eq_true rfl) (Nat.le_of_ble_eq_true rfl) (Nat.le_of_ble_eq_true rfl) (Nat.le_of_ble_eq_true rfl) (Nat.le_of_ble_eq_true rfl) (s_X12_fails G hs (fun r37 g37 e37 o37 v37 => ?_))
    refine r_iret dX12_likes_40 rfl (Nat.le_of_ble_eq_true rfl) (Nat.le_of_ble_eq_true rfl) ?_
    exact hT1 (by omega) _ g37 (frM_tr (frM_su og2 (by decide) (by decide)) (frM_su o37 (by decide) (by decide))) (by rw [v37]; omega)
  · refine r_aloadR0 dX12_likes_23 ?_
    refine r_aloadR0 dX12_likes_24 ?_
    refine q_callV0 zm_RX12_343 dX12_likes_25 (shM_k hs) (by decide) rfl (Nat.le_of_ble_eq_true rfl) (Nat.le_of_ble_eq_true rfl) (Nat.le_of_ble_eq_true rfl) (Nat.le_of_ble_eq_true rfl) (Nat.le_of_ble_eq_true rfl) (s_X12_now G hs hk2 hw (fun r25 g25 e25_z o25 c25 => ?_))
    refine r_iload1 dX12_likes_28 ?_
    refine q_callV2 zm_RX12_355 dX12_likes_29 (shM_k hs) (by decide) rfl (Nat.le_of_ble_eq_true rfl) (Nat.le_of_ble_eq_true rfl) (Nat.le_of_ble_eq_true rfl) (Nat.le_of_ble_eq_true rfl) (Nat.le_of_ble_eq_true rfl) (s_X12_lik (L := tbL T) (T := T) (gu := x.toInt.toNat) G hs (by rw [o25.2.1 1 (by decide) (by decide) (by decide)]; exact hk2) hw e25_z (by omega) c25 hrt (by omega) (by omega) (fun r29 g29 e29 o29 => ?_))
    refine r_goto (t := 40) dX12_likes_32 (by decide) ?_
    refine r_iret dX12_likes_40 rfl (Nat.le_of_ble_eq_true rfl) (Nat.le_of_ble_eq_true rfl) ?_
    exact hQ (by omega) _ g29 e29 (frM_tr (frM_su og2 (by decide) (by decide)) (frM_tr (frM_su o25 (by decide) (by decide)) (frM_su o29 (by decide) (by decide)))) (by rw [o29.2.2 4 (by decide), o25.2.2 4 (by decide)]; omega)
