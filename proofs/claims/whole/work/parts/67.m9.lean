/-! the reference: deeds as they are called -/
theorem tbL_kp {T : zTb} : tbL (tbKp T) = tbL T := rfl
set_option maxHeartbeats 4000000 in
set_option maxRecDepth 100000 in
theorem s_X12_fold {g : zGT} {w : zW} {f : Nat → Nat → Int32} {j : Nat → Nat → Int64} {A : Nat} {T : zTb} {x y : Int32} {Q : Option Value → zW → Prop} {QX : String → zW → Prop} (G : zGok g) (hs : shM w A) (hk : ctKn (f (A + 1)) T) (hw : wfT T) (hQ0 : ¬ (1 ≤ x.toInt ∧ x.toInt < ((tbL T).length : Nat) ∧ 0 ≤ y.toInt ∧ y.toInt < 4) → ∀ (r : Int32) f2_z, r.toInt = -1 → frM A [6] [4] f f2_z → (f2_z A 4).toInt = 0 → Q (some (.int r)) (zM w f2_z j)) (hQ : (1 ≤ x.toInt ∧ x.toInt < ((tbL T).length : Nat) ∧ 0 ≤ y.toInt ∧ y.toInt < 4) → ∀ (r : Int32) f2_z, r.toInt = ((tbL (tbDo T (10 * x.toInt.toNat + y.toInt.toNat))).length : Nat) → frM A [1, 6] [4] f f2_z → (f2_z A 4).toInt = 0 → ctKn (f2_z (A + 1)) (tbDo T (10 * x.toInt.toNat + y.toInt.toNat)) → Q (some (.int r)) (zM w f2_z j)) : zC g 5 yX12_fold cX12_fold 3 (some .int) [.ref A, .int x, .int y] (zM w f j) (0, 0) Q QX := by
  refine zC_of G (by decide +kernel) (Nat.le_of_ble_eq_true rfl) ?_
  have hk9 := hk
  obtain ⟨⟨k0_z, k1_z, k2_z, k3_z, k4_z, k5_z, k6_z⟩, km, kg, kp, kl1, kl2, kl3⟩ := hk9
  have km9 := km
  obtain ⟨m1_z, m2_z, m3_z⟩ := km9
  have hn6 : tbC T ≤ 6 := hw.2.1
  have hg4 : tbG T ≤ 4 := hw.2.2.1
  have hwm := hw.2.2.2.2.2.2.2.1
  have hml : T.2.2.1.2.length ≤ 5 := hwm.2.1
  have hm99 := hwm.2.2
  have hrt := wfT_rch hw
  have hLl : (tbL T).length ≤ 6 := Nat.le_trans (rch_cell hrt).2.2.2.2 hn6
  have hpl : T.2.2.2.length ≤ 10 := hw.2.2.2.2.2.2.2.2.1
  refine r_aloadR0 dX12_fold_0 ?_
  refine n_iconst dX12_fold_1 (by decide) (fun r1 e1_z => ?_)
  refine m_putI zf_RX12_77 (by intro C T N h_z; cases h_z; rfl) rfl dX12_fold_2 (shM_k hs) ?_
  obtain ⟨g2, hg2⟩ : ∃ g9, g9 = zu f A 4 r1 := ⟨_, rfl⟩
  rw [← hg2]
  have og2 : frM A [] [4] f g2 := by rw [hg2]; exact frM_zk frM_rf (by decide)
  have vg2 : g2 A 4 = r1 := by rw [hg2]; exact zu_at
  have vt2 : (g2 A 4).toInt = r1.toInt := by rw [vg2]
  have hk2 : ctKn (g2 (A + 1)) T := by rw [og2.2.1 1 (by decide) (by decide) (by decide)]; exact hk
  refine r_aloadR0 dX12_fold_5 ?_
  refine r_aloadR0 dX12_fold_6 ?_
  refine q_callV0 zm_RX12_343 dX12_fold_7 (shM_k hs) (by decide) rfl (Nat.le_of_ble_eq_true rfl) (Nat.le_of_ble_eq_true rfl) (Nat.le_of_ble_eq_true rfl) (Nat.le_of_ble_eq_true rfl) (Nat.le_of_ble_eq_true rfl) (s_X12_now G hs hk2 hw (fun r7 g7 e7_z o7 c7_z => ?_))
  refine r_iload1 dX12_fold_10 ?_
  refine n_i2l dX12_fold_11 (fun r11 e11_z => ?_)
  refine r_iload2 dX12_fold_12 ?_
  refine n_i2l dX12_fold_13 (fun r13 e13_z => ?_)
  refine q_callV3 zm_RX12_358 dX12_fold_14 (shM_k hs) (by decide) rfl (Nat.le_of_ble_eq_true rfl) (Nat.le_of_ble_eq_true rfl) (Nat.le_of_ble_eq_true rfl) (Nat.le_of_ble_eq_true rfl) (Nat.le_of_ble_eq_true rfl) (s_X12_isFold (v := (tbL T).length) G hs e7_z (by omega) c7_z.1 hLl (fun r14 e14_z => ?_))
  have hk7 : ctKn (g7 (A + 1)) T := by rw [o7.2.1 1 (by decide) (by decide) (by decide)]; exact hk2
  have ot : frM A [6] [4] f g7 := frM_tr (frM_su og2 (by decide) (by decide)) (frM_su o7 (by decide) (by decide))
  have vt : g7 A 4 = r1 := by rw [o7.2.2 4 (by decide)]; exact vg2
  refine t_ifne (t := 22) dX12_fold_17 (by decide) (fun h17 => ?_) (fun h17 => ?_)
  · refine r_aloadR0 dX12_fold_22 ?_
    refine q_callV0 zm_RX12_362 dX12_fold_23 (shM_k hs) (by decide) rfl (Nat.le_of_ble_eq_true rfl) (Nat.le_of_ble_eq_true rfl) (Nat.le_of_ble_eq_true rfl) (Nat.le_of_ble_eq_true rfl) (Nat.le_of_ble_eq_true rfl) (s_X12_keeps G hs hk7 hw (fun g23 o23 c23 => ?_))
    have hwk := wfT_kp hw
    have hfd : (1 ≤ x.toInt ∧ x.toInt < ((tbL T).length : Nat) ∧ 0 ≤ y.toInt ∧ y.toInt < 4) := by omega
    obtain ⟨d, hd9⟩ : ∃ d, d = (10 * x.toInt.toNat + y.toInt.toNat) := ⟨_, rfl⟩
    have hod : okD (tbC T) T.2.2.1 d := Or.inr (Or.inr (Or.inl ⟨by omega, by omega, by show d / 10 < (tbL T).length; omega, by omega⟩))
    have hl5 := tb_len5 hw hod (by omega)
    refine r_aloadR0 dX12_fold_26 ?_
    refine n_bipush dX12_fold_27 (by decide) (fun r27 e27_z => ?_)
    refine r_iload1 dX12_fold_29 ?_
    refine n_imulc dX12_fold_30 e27_z (by omega) (fun r30 e30 => ?_)
    refine r_iload2 dX12_fold_31 ?_
    refine n_iadd dX12_fold_32 (by omega) (fun r32 e32 => ?_)
    refine q_callV1 zm_RX12_365 dX12_fold_33 (shM_k hs) (by decide) rfl (Nat.le_of_ble_eq_true rfl) (Nat.le_of_ble_eq_true rfl) (Nat.le_of_ble_eq_true rfl) (Nat.le_of_ble_eq_true rfl) (Nat.le_of_ble_eq_true rfl) (s_X12_addsFold (d := d) (M := T.2.2.1) G hs c23.2.1 hl5 (by omega) (fun g33 a1 a2 a3 => ?_))
    have hdo : moDo T.2.2.1 d = (T.2.2.1.1, T.2.2.1.2 ++ [d]) := by unfold moDo; rw [if_neg (by omega), if_neg (by omega), if_neg (by omega), if_neg (by omega)]
    have c33 : ctKn (g33 (A + 1)) (tbDo T d) := ctKn_nw (Mn := moDo T.2.2.1 d) c23 hwk (fun k hk => a2 k (by omega)) (by rw [hdo]; exact a3)
    have o33 : frM A [1] [] g23 g33 := ⟨fun q hq => a1 q (by omega), fun r h2 h3 h4 => a1 _ (by intro e9_z; exact h4 (by simp; omega)), fun k _ => by rw [a1 A (by omega)]⟩
    have hwd := wfT_do hw hod
    have hLd : (tbL (tbDo T d)).length ≤ 6 := Nat.le_trans (rch_cell (wfT_rch hwd)).2.2.2.2 hn6
    have hld : (tbDo T d).2.2.1.2.length ≤ 5 := hwd.2.2.2.2.2.2.2.1.2.1
    refine r_aloadR0 dX12_fold_36 ?_
    refine r_aloadR0 dX12_fold_37 ?_
    refine q_callV0 zm_RX12_343 dX12_fold_38 (shM_k hs) (by decide) rfl (Nat.le_of_ble_eq_true rfl) (Nat.le_of_ble_eq_true rfl) (Nat.le_of_ble_eq_true rfl) (Nat.le_of_ble_eq_true rfl) (Nat.le_of_ble_eq_true rfl) (s_X12_now G hs c33 hwd (fun r38 g38 e38 o38 c38 => ?_))
    refine q_callV1 zm_RX12_256 dX12_fold_41 (shM_k hs) (by decide) rfl (Nat.le_of_ble_eq_true rfl) (Nat.le_of_ble_eq_true rfl) (Nat.le_of_ble_eq_true rfl) (Nat.le_of_ble_eq_true rfl) (Nat.le_of_ble_eq_true rfl) (s_X12_columnsAt (v := (tbL (tbDo T d)).length) G hs e38 (by omega) c38.1 (fun r41 e41_z => ?_))
    refine r_iret dX12_fold_44 rfl (Nat.le_of_ble_eq_true rfl) (Nat.le_of_ble_eq_true rfl) ?_
    subst hd9
    refine hQ hfd _ g38 (by rw [e41_z]) (frM_tr (frM_su ot (by decide) (by decide)) (frM_tr (frM_su o23 (by decide) (by decide)) (frM_tr (frM_su o33 (by decide) (by decide)) (frM_su o38 (by decide) (by decide))))) ?_ ?_
    · rw [o38.2.2 4 (by decide), o33.2.2 4 (by decide), o23.2.2 4 (by decide), vt]; exact e1_z
    · rw [o38.2.1 1 (by decide) (by decide) (by decide)]; exact c33
  · refine n_iconst dX12_fold_20 (by decide) (fun r20 e20 => ?_)
    refine r_iret dX12_fold_21 rfl (Nat.le_of_ble_eq_true rfl) (Nat.le_of_ble_eq_true rfl) ?_
    exact hQ0 (by omega) _ g7 (by omega) ot (by rw [vt]; exact e1_z)
set_option maxHeartbeats 4000000 in
set_option maxRecDepth 100000 in
theorem s_X12_unfold {g : zGT} {w : zW} {f : Nat → Nat → Int32} {j : Nat → Nat → Int64} {A : Nat} {T : zTb} {Q : Option Value → zW → Prop} {QX : String → zW → Prop} (G : zGok g) (hs : shM w A) (hk : ctKn (f (A + 1)) T) (hw : wfT T) (hT1 : T.2.2.1.2.length = 0 → ∀ (r : Int32) f2_z, frM A [6] [4] f f2_z → (f2_z A 4).toInt = 1 → Q (some (.int r)) (zM w f2_z j)) (hQ : 1 ≤ T.2.2.1.2.length → ∀ (r : Int32) f2_z, r.toInt = ((tbL (tbDo T 100)).length : Nat) → frM A [1, 6] [4] f f2_z → (f2_z A 4).toInt = 0 → ctKn (f2_z (A + 1)) (tbDo T 100) → Q (some (.int r)) (zM w f2_z j)) : zC g 5 yX12_unfold cX12_unfold 1 (some .int) [.ref A] (zM w f j) (0, 0) Q QX := by
  refine zC_of G (by decide +kernel) (Nat.le_of_ble_eq_true rfl) ?_
  have hk9 := hk
  obtain ⟨⟨k0_z, k1_z, k2_z, k3_z, k4_z, k5_z, k6_z⟩, km, kg, kp, kl1, kl2, kl3⟩ := hk9
  have km9 := km
  obtain ⟨m1_z, m2_z, m3_z⟩ := km9
  have hn6 : tbC T ≤ 6 := hw.2.1
  have hg4 : tbG T ≤ 4 := hw.2.2.1
  have hwm := hw.2.2.2.2.2.2.2.1
  have hml : T.2.2.1.2.length ≤ 5 := hwm.2.1
  have hm99 := hwm.2.2
  have hrt := wfT_rch hw
  have hLl : (tbL T).length ≤ 6 := Nat.le_trans (rch_cell hrt).2.2.2.2 hn6
  have hpl : T.2.2.2.length ≤ 10 := hw.2.2.2.2.2.2.2.2.1
  rcases Nat.eq_zero_or_pos T.2.2.1.2.length with hz | hz
  · refine r_aloadR0 dX12_unfold_0 ?_
    refine r_aloadR0 dX12_unfold_1 ?_
    refine m_getR (q := (A + 1)) zf_RX12_9 rfl dX12_unfold_2 (shM_k hs) (shM_p1 hs) ?_
    refine n_bipush dX12_unfold_5 (by decide) (fun r5 e5_z => ?_)
    refine m_iald (k := 7) (x := (f (A + 1) 7)) dX12_unfold_7 (shM_k1 hs) (shM_n1 hs) (by omega) (by omega) (rfl) ?_
    refine t_ifne (t := 15) dX12_unfold_8 (by decide) (fun h8 => False.elim (by omega)) (fun h8 => ?_)
    refine n_iconst dX12_unfold_11 (by decide) (fun r11 e11_z => ?_)
    refine r_goto (t := 16) dX12_unfold_12 (by decide) ?_
    refine m_putI zf_RX12_77 (by intro C T N h_z; cases h_z; rfl) rfl dX12_unfold_16 (shM_k hs) ?_
    obtain ⟨g16, hg16⟩ : ∃ g9, g9 = zu f A 4 r11 := ⟨_, rfl⟩
    rw [← hg16]
    have og16 : frM A [] [4] f g16 := by rw [hg16]; exact frM_zk frM_rf (by decide)
    have vg16 : g16 A 4 = r11 := by rw [hg16]; exact zu_at
    have vt16 : (g16 A 4).toInt = r11.toInt := by rw [vg16]
    have hk16 : ctKn (g16 (A + 1)) T := by rw [og16.2.1 1 (by decide) (by decide) (by decide)]; exact hk
    refine r_aloadR0 dX12_unfold_19 ?_
    refine m_getV (x := r11) zf_RX12_77 rfl dX12_unfold_20 (shM_k hs) (vg16) ?_
    refine t_ifle (t := 28) dX12_unfold_23 (by decide) (fun h23 => False.elim (by omega)) (fun h23 => ?_)
    refine n_iconst dX12_unfold_26 (by decide) (fun r26 e26_z => ?_)
    refine r_iret dX12_unfold_27 rfl (Nat.le_of_ble_eq_true rfl) (Nat.le_of_ble_eq_true rfl) ?_
    exact hT1 hz _ g16 (frM_su og16 (by decide) (by decide)) (by rw [vg16]; exact e11_z)
  · refine r_aloadR0 dX12_unfold_0 ?_
    refine r_aloadR0 dX12_unfold_1 ?_
    refine m_getR (q := (A + 1)) zf_RX12_9 rfl dX12_unfold_2 (shM_k hs) (shM_p1 hs) ?_
    refine n_bipush dX12_unfold_5 (by decide) (fun r5 e5_z => ?_)
    refine m_iald (k := 7) (x := (f (A + 1) 7)) dX12_unfold_7 (shM_k1 hs) (shM_n1 hs) (by omega) (by omega) (rfl) ?_
    refine t_ifne (t := 15) dX12_unfold_8 (by decide) (fun h8 => ?_) (fun h8 => False.elim (by omega))
    refine n_iconst dX12_unfold_15 (by decide) (fun r15 e15_z => ?_)
    refine m_putI zf_RX12_77 (by intro C T N h_z; cases h_z; rfl) rfl dX12_unfold_16 (shM_k hs) ?_
    obtain ⟨g16, hg16⟩ : ∃ g9, g9 = zu f A 4 r15 := ⟨_, rfl⟩
    rw [← hg16]
    have og16 : frM A [] [4] f g16 := by rw [hg16]; exact frM_zk frM_rf (by decide)
    have vg16 : g16 A 4 = r15 := by rw [hg16]; exact zu_at
    have vt16 : (g16 A 4).toInt = r15.toInt := by rw [vg16]
    have hk16 : ctKn (g16 (A + 1)) T := by rw [og16.2.1 1 (by decide) (by decide) (by decide)]; exact hk
    refine r_aloadR0 dX12_unfold_19 ?_
    refine m_getV (x := r15) zf_RX12_77 rfl dX12_unfold_20 (shM_k hs) (vg16) ?_
    refine t_ifle (t := 28) dX12_unfold_23 (by decide) (fun h23 => ?_) (fun h23 => False.elim (by omega))
    refine r_aloadR0 dX12_unfold_28 ?_
    refine q_callV0 zm_RX12_362 dX12_unfold_29 (shM_k hs) (by decide) rfl (Nat.le_of_ble_eq_true rfl) (Nat.le_of_ble_eq_true rfl) (Nat.le_of_ble_eq_true rfl) (Nat.le_of_ble_eq_true rfl) (Nat.le_of_ble_eq_true rfl) (s_X12_keeps G hs hk16 hw (fun g29 o29 c29 => ?_))
    have hwk := wfT_kp hw
    have q7_z := c29.2.1.1
    have hod : okD (tbC T) T.2.2.1 100 := by unfold okD; omega
    have hwd := wfT_do hw hod
    have hLd : (tbL (tbDo T 100)).length ≤ 6 := Nat.le_trans (rch_cell (wfT_rch hwd)).2.2.2.2 hn6
    have hld : (tbDo T 100).2.2.1.2.length ≤ 5 := hwd.2.2.2.2.2.2.2.1.2.1
    have q7b : (g29 (A + 1) 7).toInt = (T.2.2.1.2.length : Nat) := q7_z
    refine r_aloadR0 dX12_unfold_32 ?_
    refine m_getR (q := (A + 1)) zf_RX12_9 rfl dX12_unfold_33 (shM_k hs) (shM_p1 hs) ?_
    refine n_bipush dX12_unfold_36 (by decide) (fun r36 e36 => ?_)
    refine r_dup2 dX12_unfold_38 rfl rfl ?_
    refine m_iald (k := 7) (x := (g29 (A + 1) 7)) dX12_unfold_39 (shM_k1 hs) (shM_n1 hs) (by omega) (by omega) (rfl) ?_
    refine n_iconst dX12_unfold_40 (by decide) (fun r40 e40 => ?_)
    refine n_isub dX12_unfold_41 (by omega) (fun r41 e41_z => ?_)
    refine m_iast (k := 7) dX12_unfold_42 (shM_k1 hs) (shM_n1 hs) (by omega) (by omega) ?_
    obtain ⟨g42, hg42⟩ : ∃ g9, g9 = zu g29 (A + 1) 7 r41 := ⟨_, rfl⟩
    rw [← hg42]
    have o42 : frM A [1] [] g29 g42 := by rw [hg42]; exact frM_zr (r := 1) frM_rf (by decide) (by decide) (by decide)
    have c42 : ctKn (g42 (A + 1)) (tbDo T 100) := by
      refine ctKn_nw (Mn := moDo T.2.2.1 100) c29 hwk (fun k hk => by rw [hg42, zu_nn (Or.inr (by omega))]) ?_
      have hdo : moDo T.2.2.1 100 = (T.2.2.1.1, T.2.2.1.2.dropLast) := rfl
      obtain ⟨n1, n2, n3⟩ := c29.2.1
      rw [hdo]
      refine ⟨?_, fun i e hi_z => ?_, fun c hc_z => ?_⟩
      · rw [hg42, zu_at]; show _ = (T.2.2.1.2.dropLast.length : Int); rw [List.length_dropLast]; omega
      · have hi2 : T.2.2.1.2.dropLast[i]? = some e := hi_z
        rw [List.dropLast_eq_take, List.getElem?_take] at hi2
        split at hi2
        · rw [hg42, zu_nn (Or.inr (by omega))]; exact n2 i e hi2
        · exact absurd hi2 (by simp)
      · rw [hg42, zu_nn (Or.inr (by omega)), zu_nn (Or.inr (by omega))]; exact n3 c hc_z
    refine r_aloadR0 dX12_unfold_43 ?_
    refine r_aloadR0 dX12_unfold_44 ?_
    refine q_callV0 zm_RX12_343 dX12_unfold_45 (shM_k hs) (by decide) rfl (Nat.le_of_ble_eq_true rfl) (Nat.le_of_ble_eq_true rfl) (Nat.le_of_ble_eq_true rfl) (Nat.le_of_ble_eq_true rfl) (Nat.le_of_ble_eq_true rfl) (s_X12_now G hs c42 hwd (fun r45 g45 e45 o45 c45 => ?_))
    refine q_callV1 zm_RX12_256 dX12_unfold_48 (shM_k hs) (by decide) rfl (Nat.le_of_ble_eq_true rfl) (Nat.le_of_ble_eq_true rfl) (Nat.le_of_ble_eq_true rfl) (Nat.le_of_ble_eq_true rfl) (Nat.le_of_ble_eq_true rfl) (s_X12_columnsAt (v := (tbL (tbDo T 100)).length) G hs e45 (by omega) c45.1 (fun r48 e48 => ?_))
    refine r_iret dX12_unfold_51 rfl (Nat.le_of_ble_eq_true rfl) (Nat.le_of_ble_eq_true rfl) ?_
    refine hQ hz _ g45 (by rw [e48]) (frM_tr (frM_su og16 (by decide) (by decide)) (frM_tr (frM_su o29 (by decide) (by decide)) (frM_tr (frM_su o42 (by decide) (by decide)) (frM_su o45 (by decide) (by decide))))) ?_ ?_
    · rw [o45.2.2 4 (by decide), o42.2.2 4 (by decide), o29.2.2 4 (by decide), vg16]; exact e15_z
    · rw [o45.2.1 1 (by decide) (by decide) (by decide)]; exact c42
set_option maxHeartbeats 4000000 in
set_option maxRecDepth 100000 in
theorem s_X12_shake {g : zGT} {w : zW} {f : Nat → Nat → Int32} {j : Nat → Nat → Int64} {A : Nat} {T : zTb} {Q : Option Value → zW → Prop} {QX : String → zW → Prop} (G : zGok g) (hs : shM w A) (hk : ctKn (f (A + 1)) T) (hw : wfT T) (hT1 : T.2.2.1.2.length = 0 → ∀ (r : Int32) f2_z, frM A [6] [4] f f2_z → (f2_z A 4).toInt = 1 → Q (some (.int r)) (zM w f2_z j)) (hQ : 1 ≤ T.2.2.1.2.length → ∀ (r : Int32) f2_z, r.toInt = (T.2.2.1.2.length : Nat) → frM A [1, 6] [4] f f2_z → (f2_z A 4).toInt = 0 → ctKn (f2_z (A + 1)) (tbDo T 200) → Q (some (.int r)) (zM w f2_z j)) : zC g 5 yX12_shake cX12_shake 2 (some .int) [.ref A] (zM w f j) (0, 0) Q QX := by
  refine zC_of G (by decide +kernel) (Nat.le_of_ble_eq_true rfl) ?_
  have hk9 := hk
  obtain ⟨⟨k0_z, k1_z, k2_z, k3_z, k4_z, k5_z, k6_z⟩, km, kg, kp, kl1, kl2, kl3⟩ := hk9
  have km9 := km
  obtain ⟨m1_z, m2_z, m3_z⟩ := km9
  have hn6 : tbC T ≤ 6 := hw.2.1
  have hg4 : tbG T ≤ 4 := hw.2.2.1
  have hwm := hw.2.2.2.2.2.2.2.1
  have hml : T.2.2.1.2.length ≤ 5 := hwm.2.1
  have hm99 := hwm.2.2
  have hrt := wfT_rch hw
  have hLl : (tbL T).length ≤ 6 := Nat.le_trans (rch_cell hrt).2.2.2.2 hn6
  have hpl : T.2.2.2.length ≤ 10 := hw.2.2.2.2.2.2.2.2.1
  rcases Nat.eq_zero_or_pos T.2.2.1.2.length with hz | hz
  · refine r_aloadR0 dX12_shake_0 ?_
    refine r_aloadR0 dX12_shake_1 ?_
    refine m_getR (q := (A + 1)) zf_RX12_9 rfl dX12_shake_2 (shM_k hs) (shM_p1 hs) ?_
    refine n_bipush dX12_shake_5 (by decide) (fun r5 e5_z => ?_)
    refine m_iald (k := 7) (x := (f (A + 1) 7)) dX12_shake_7 (shM_k1 hs) (shM_n1 hs) (by omega) (by omega) (rfl) ?_
    refine t_ifne (t := 15) dX12_shake_8 (by decide) (fun h8 => False.elim (by omega)) (fun h8 => ?_)
    refine n_iconst dX12_shake_11 (by decide) (fun r11 e11_z => ?_)
    refine r_goto (t := 16) dX12_shake_12 (by decide) ?_
    refine m_putI zf_RX12_77 (by intro C T N h_z; cases h_z; rfl) rfl dX12_shake_16 (shM_k hs) ?_
    obtain ⟨g16, hg16⟩ : ∃ g9, g9 = zu f A 4 r11 := ⟨_, rfl⟩
    rw [← hg16]
    have og16 : frM A [] [4] f g16 := by rw [hg16]; exact frM_zk frM_rf (by decide)
    have vg16 : g16 A 4 = r11 := by rw [hg16]; exact zu_at
    have vt16 : (g16 A 4).toInt = r11.toInt := by rw [vg16]
    have hk16 : ctKn (g16 (A + 1)) T := by rw [og16.2.1 1 (by decide) (by decide) (by decide)]; exact hk
    refine r_aloadR0 dX12_shake_19 ?_
    refine m_getV (x := r11) zf_RX12_77 rfl dX12_shake_20 (shM_k hs) (vg16) ?_
    refine t_ifle (t := 28) dX12_shake_23 (by decide) (fun h23 => False.elim (by omega)) (fun h23 => ?_)
    refine n_iconst dX12_shake_26 (by decide) (fun r26 e26_z => ?_)
    refine r_iret dX12_shake_27 rfl (Nat.le_of_ble_eq_true rfl) (Nat.le_of_ble_eq_true rfl) ?_
    exact hT1 hz _ g16 (frM_su og16 (by decide) (by decide)) (by rw [vg16]; exact e11_z)
  · refine r_aloadR0 dX12_shake_0 ?_
    refine r_aloadR0 dX12_shake_1 ?_
    refine m_getR (q := (A + 1)) zf_RX12_9 rfl dX12_shake_2 (shM_k hs) (shM_p1 hs) ?_
    refine n_bipush dX12_shake_5 (by decide) (fun r5 e5_z => ?_)
    refine m_iald (k := 7) (x := (f (A + 1) 7)) dX12_shake_7 (shM_k1 hs) (shM_n1 hs) (by omega) (by omega) (rfl) ?_
    refine t_ifne (t := 15) dX12_shake_8 (by decide) (fun h8 => ?_) (fun h8 => False.elim (by omega))
    refine n_iconst dX12_shake_15 (by decide) (fun r15 e15_z => ?_)
    refine m_putI zf_RX12_77 (by intro C T N h_z; cases h_z; rfl) rfl dX12_shake_16 (shM_k hs) ?_
    obtain ⟨g16, hg16⟩ : ∃ g9, g9 = zu f A 4 r15 := ⟨_, rfl⟩
    rw [← hg16]
    have og16 : frM A [] [4] f g16 := by rw [hg16]; exact frM_zk frM_rf (by decide)
    have vg16 : g16 A 4 = r15 := by rw [hg16]; exact zu_at
    have vt16 : (g16 A 4).toInt = r15.toInt := by rw [vg16]
    have hk16 : ctKn (g16 (A + 1)) T := by rw [og16.2.1 1 (by decide) (by decide) (by decide)]; exact hk
    refine r_aloadR0 dX12_shake_19 ?_
    refine m_getV (x := r15) zf_RX12_77 rfl dX12_shake_20 (shM_k hs) (vg16) ?_
    refine t_ifle (t := 28) dX12_shake_23 (by decide) (fun h23 => ?_) (fun h23 => False.elim (by omega))
    refine r_aloadR0 dX12_shake_28 ?_
    refine q_callV0 zm_RX12_362 dX12_shake_29 (shM_k hs) (by decide) rfl (Nat.le_of_ble_eq_true rfl) (Nat.le_of_ble_eq_true rfl) (Nat.le_of_ble_eq_true rfl) (Nat.le_of_ble_eq_true rfl) (Nat.le_of_ble_eq_true rfl) (s_X12_keeps G hs hk16 hw (fun g29 o29 c29 => ?_))
    have hwk := wfT_kp hw
    have q7_z := c29.2.1.1
    have hod : okD (tbC T) T.2.2.1 200 := by unfold okD; omega
    have hwd := wfT_do hw hod
    have hLd : (tbL (tbDo T 200)).length ≤ 6 := Nat.le_trans (rch_cell (wfT_rch hwd)).2.2.2.2 hn6
    have hld : (tbDo T 200).2.2.1.2.length ≤ 5 := hwd.2.2.2.2.2.2.2.1.2.1
    have q7b : (g29 (A + 1) 7).toInt = (T.2.2.1.2.length : Nat) := q7_z
    refine r_aloadR0 dX12_shake_32 ?_
    refine m_getR (q := (A + 1)) zf_RX12_9 rfl dX12_shake_33 (shM_k hs) (shM_p1 hs) ?_
    refine n_bipush dX12_shake_36 (by decide) (fun r36 e36 => ?_)
    refine m_iald (k := 7) (x := (g29 (A + 1) 7)) dX12_shake_38 (shM_k1 hs) (shM_n1 hs) (by omega) (by omega) (rfl) ?_
    refine r_istore1 dX12_shake_39 rfl ?_
    refine r_aloadR0 dX12_shake_40 ?_
    refine m_getR (q := (A + 1)) zf_RX12_9 rfl dX12_shake_41 (shM_k hs) (shM_p1 hs) ?_
    refine n_bipush dX12_shake_44 (by decide) (fun r44 e44 => ?_)
    refine n_iconst dX12_shake_46 (by decide) (fun r46 e46 => ?_)
    refine m_iast (k := 7) dX12_shake_47 (shM_k1 hs) (shM_n1 hs) (by omega) (by omega) ?_
    obtain ⟨g47, hg47⟩ : ∃ g9, g9 = zu g29 (A + 1) 7 r46 := ⟨_, rfl⟩
    rw [← hg47]
    have o47 : frM A [1] [] g29 g47 := by rw [hg47]; exact frM_zr (r := 1) frM_rf (by decide) (by decide) (by decide)
    have c47 : ctKn (g47 (A + 1)) (tbDo T 200) := by
      refine ctKn_nw (Mn := moDo T.2.2.1 200) c29 hwk (fun k hk => by rw [hg47, zu_nn (Or.inr (by omega))]) ?_
      have hdo : moDo T.2.2.1 200 = (T.2.2.1.1, []) := rfl
      obtain ⟨n1, n2, n3⟩ := c29.2.1
      rw [hdo]
      refine ⟨?_, fun i e hi_z => ?_, fun c hc_z => ?_⟩
      · rw [hg47, zu_at]; show _ = ((0 : Nat) : Int); omega
      · exact absurd hi_z (by simp)
      · rw [hg47, zu_nn (Or.inr (by omega)), zu_nn (Or.inr (by omega))]; exact n3 c hc_z
    refine r_iload1 dX12_shake_48 ?_
    refine r_iret dX12_shake_49 rfl (Nat.le_of_ble_eq_true rfl) (Nat.le_of_ble_eq_true rfl) ?_
    refine hQ hz _ g47 q7b (frM_tr (frM_su og16 (by decide) (by decide)) (frM_tr (frM_su o29 (by decide) (by decide)) (frM_su o47 (by decide) (by decide)))) ?_ c47
    rw [o47.2.2 4 (by decide), o29.2.2 4 (by decide), vg16]; exact e15_z
set_option maxHeartbeats 4000000 in
set_option maxRecDepth 100000 in
theorem s_X12_amend {g : zGT} {w : zW} {f : Nat → Nat → Int32} {j : Nat → Nat → Int64} {A : Nat} {T : zTb} {x y z : Int32} {Q : Option Value → zW → Prop} {QX : String → zW → Prop} (G : zGok g) (hs : shM w A) (hk : ctKn (f (A + 1)) T) (hw : wfT T) (hT1 : ¬ (0 ≤ x.toInt ∧ x.toInt < (tbC T : Nat)) → ∀ (r : Int32) f2_z, frM A [] [4] f f2_z → (f2_z A 4).toInt = 1 → Q (some (.int r)) (zM w f2_z j)) (hT2 : (0 ≤ x.toInt ∧ x.toInt < (tbC T : Nat)) → ¬ ((0 ≤ y.toInt ∧ y.toInt ≤ 1) ∧ 0 ≤ z.toInt ∧ z.toInt ≤ 99) → ∀ (r : Int32) f2_z, frM A [] [4] f f2_z → (f2_z A 4).toInt = 2 → Q (some (.int r)) (zM w f2_z j)) (hQ : (0 ≤ x.toInt ∧ x.toInt < (tbC T : Nat)) → ((0 ≤ y.toInt ∧ y.toInt ≤ 1) ∧ 0 ≤ z.toInt ∧ z.toInt ≤ 99) → ∀ (r : Int32) f2_z, r.toInt = (T.2.2.1.1 (2 * x.toInt.toNat + y.toInt.toNat) : Nat) → frM A [1] [4] f f2_z → (f2_z A 4).toInt = 0 → ctKn (f2_z (A + 1)) (tbDo T (1000 + 1000 * y.toInt.toNat + 100 * x.toInt.toNat + z.toInt.toNat)) → Q (some (.int r)) (zM w f2_z j)) : zC g 6 yX12_amend cX12_amend 5 (some .int) [.ref A, .int x, .int y, .int z] (zM w f j) (0, 0) Q QX := by
  refine zC_of G (by decide +kernel) (Nat.le_of_ble_eq_true rfl) ?_
  have hk9 := hk
  obtain ⟨⟨k0_z, k1_z, k2_z, k3_z, k4_z, k5_z, k6_z⟩, km, kg, kp, kl1, kl2, kl3⟩ := hk9
  have km9 := km
  obtain ⟨m1_z, m2_z, m3_z⟩ := km9
  have hn6 : tbC T ≤ 6 := hw.2.1
  have hg4 : tbG T ≤ 4 := hw.2.2.1
  have hwm := hw.2.2.2.2.2.2.2.1
  have hml : T.2.2.1.2.length ≤ 5 := hwm.2.1
  have hm99 := hwm.2.2
  have hrt := wfT_rch hw
  have hLl : (tbL T).length ≤ 6 := Nat.le_trans (rch_cell hrt).2.2.2.2 hn6
  have hpl : T.2.2.2.length ≤ 10 := hw.2.2.2.2.2.2.2.2.1
  refine r_aloadR0 dX12_amend_0 ?_
  refine r_aloadR0 dX12_amend_1 ?_
  refine r_iload1 dX12_amend_2 ?_
  refine n_i2l dX12_amend_3 (fun r3 e3_z => ?_)
  refine q_callV1 zm_RX12_337 dX12_amend_4 (shM_k hs) (by decide) rfl (Nat.le_of_ble_eq_true rfl) (Nat.le_of_ble_eq_true rfl) (Nat.le_of_ble_eq_true rfl) (Nat.le_of_ble_eq_true rfl) (Nat.le_of_ble_eq_true rfl) (s_X12_isCell G hs hk.1.2.1 hn6 (fun r4 e4_z => ?_))
  refine t_ifne (t := 14) dX12_amend_7 (by decide) (fun h7 => ?_) (fun h7 => ?_)
  · first
    | (exfalso; omega)
    | (refine r_iload2 dX12_amend_14 ?_
       refine n_i2l dX12_amend_15 (fun r15 e15_z => ?_)
       refine n_lconst (q := 0) dX12_amend_16 rfl (by decide) (fun r16 e16_z => ?_)
       refine n_lconst (q := 1) dX12_amend_17 rfl (by decide) (fun r17 e17_z => ?_)
       refine q_callS3 zm_RX12_138 dX12_amend_18 (Nat.le_of_ble_eq_true rfl) (Nat.le_of_ble_eq_true rfl) (Nat.le_of_ble_eq_true rfl) (Nat.le_of_ble_eq_true rfl) (Nat.le_of_ble_eq_true rfl) (s_X12_within G  (fun r18 e18_z => ?_))
       refine t_ifeq (t := 40) dX12_amend_21 (by decide) (fun h21 => ?_) (fun h21 => ?_)
       · first
         | (exfalso; omega)
         | (refine n_iconst dX12_amend_40 (by decide) (fun r40 e40 => ?_)
            refine m_putI zf_RX12_77 (by intro C T N h_z; cases h_z; rfl) rfl dX12_amend_41 (shM_k hs) ?_
            obtain ⟨g41, hg41⟩ : ∃ g9, g9 = zu f A 4 r40 := ⟨_, rfl⟩
            rw [← hg41]
            have og41 : frM A [] [4] f g41 := by rw [hg41]; exact frM_zk frM_rf (by decide)
            have vg41 : g41 A 4 = r40 := by rw [hg41]; exact zu_at
            have vt41 : (g41 A 4).toInt = r40.toInt := by rw [vg41]
            have hk41 : ctKn (g41 (A + 1)) T := by rw [og41.2.1 1 (by decide) (by decide) (by decide)]; exact hk
            refine r_aloadR0 dX12_amend_44 ?_
            refine m_getV (x := (g41 A 4)) zf_RX12_77 rfl dX12_amend_45 (shM_k hs) (rfl) ?_
            refine t_ifle (t := 53) dX12_amend_48 (by decide) (fun h48 => ?_) (fun h48 => ?_)
            · first
              | (exfalso; omega)
              | (refine r_aloadR0 dX12_amend_53 ?_
                 refine q_callV0 zm_RX12_362 dX12_amend_54 (shM_k hs) (by decide) rfl (Nat.le_of_ble_eq_true rfl) (Nat.le_of_ble_eq_true rfl) (Nat.le_of_ble_eq_true rfl) (Nat.le_of_ble_eq_true rfl) (Nat.le_of_ble_eq_true rfl) (s_X12_keeps G hs hk41 hw (fun g54 o54 c54 => ?_))
                 have hwk := wfT_kp hw
                 have hac : (0 ≤ x.toInt ∧ x.toInt < (tbC T : Nat)) := by omega
                 have hac2 : ((0 ≤ y.toInt ∧ y.toInt ≤ 1) ∧ 0 ≤ z.toInt ∧ z.toInt ≤ 99) := by omega
                 obtain ⟨d, hd9⟩ : ∃ d, d = (1000 + 1000 * y.toInt.toNat + 100 * x.toInt.toNat + z.toInt.toNat) := ⟨_, rfl⟩
                 have hod : okD (tbC T) T.2.2.1 d := by unfold okD; omega
                 have hrd : (g54 (A + 1) (13 + 6 * y.toInt.toNat + x.toInt.toNat)).toInt = (T.2.2.1.1 (2 * x.toInt.toNat + y.toInt.toNat) : Nat) := by
                   have h9 := c54.2.1.2.2 x.toInt.toNat (by omega)
                   rcases (show y.toInt.toNat = 0 ∨ y.toInt.toNat = 1 by omega) with h8 | h8
                   · rw [h8]; exact h9.1
                   · rw [h8]; exact h9.2
                 refine r_aloadR0 dX12_amend_57 ?_
                 refine m_getR (q := (A + 1)) zf_RX12_9 rfl dX12_amend_58 (shM_k hs) (shM_p1 hs) ?_
                 refine n_bipush dX12_amend_61 (by decide) (fun r61 e61 => ?_)
                 refine n_bipush dX12_amend_63 (by decide) (fun r63 e63 => ?_)
                 refine r_iload2 dX12_amend_65 ?_
                 refine n_imulc dX12_amend_66 e63 (by omega) (fun r66 e66 => ?_)
                 refine n_iadd dX12_amend_67 (by omega) (fun r67 e67 => ?_)
                 refine r_iload1 dX12_amend_68 ?_
                 refine n_iadd dX12_amend_69 (by omega) (fun r69 e69 => ?_)
                 refine m_iald (k := (13 + 6 * y.toInt.toNat + x.toInt.toNat)) (x := (g54 (A + 1) ((13 + 6 * y.toInt.toNat + x.toInt.toNat)))) dX12_amend_70 (shM_k1 hs) (shM_n1 hs) (by omega) (by omega) (rfl) ?_
                 refine r_istore4 dX12_amend_71 rfl ?_
                 refine r_aloadR0 dX12_amend_73 ?_
                 refine m_getR (q := (A + 1)) zf_RX12_9 rfl dX12_amend_74 (shM_k hs) (shM_p1 hs) ?_
                 refine n_bipush dX12_amend_77 (by decide) (fun r77 e77 => ?_)
                 refine n_bipush dX12_amend_79 (by decide) (fun r79 e79 => ?_)
                 refine r_iload2 dX12_amend_81 ?_
                 refine n_imulc dX12_amend_82 e79 (by omega) (fun r82 e82 => ?_)
                 refine n_iadd dX12_amend_83 (by omega) (fun r83 e83 => ?_)
                 refine r_iload1 dX12_amend_84 ?_
                 refine n_iadd dX12_amend_85 (by omega) (fun r85 e85 => ?_)
                 refine r_iload3 dX12_amend_86 ?_
                 refine m_iast (k := (13 + 6 * y.toInt.toNat + x.toInt.toNat)) dX12_amend_87 (shM_k1 hs) (shM_n1 hs) (by omega) (by omega) ?_
                 obtain ⟨g87, hg87⟩ : ∃ g9, g9 = zu g54 (A + 1) (13 + 6 * y.toInt.toNat + x.toInt.toNat) z := ⟨_, rfl⟩
                 rw [← hg87]
                 have o87 : frM A [1] [] g54 g87 := by rw [hg87]; exact frM_zr (r := 1) frM_rf (by decide) (by decide) (by decide)
                 have c87 : ctKn (g87 (A + 1)) (tbDo T d) := by
                   refine ctKn_nw (Mn := moDo T.2.2.1 d) c54 hwk (fun k hk => by rw [hg87, zu_nn (Or.inr (by omega))]) ?_
                   have hdo : moDo T.2.2.1 d = moPut T.2.2.1 (2 * x.toInt.toNat + y.toInt.toNat) z.toInt.toNat := by
                     unfold moDo
                     rcases (show y.toInt.toNat = 0 ∨ y.toInt.toNat = 1 by omega) with h8 | h8
                     · rw [if_neg (by omega), if_pos (by omega), show 2 * ((d - 1000) / 100) = 2 * x.toInt.toNat + y.toInt.toNat by omega, show (d - 1000) % 100 = z.toInt.toNat by omega]
                     · rw [if_pos (by omega), show 2 * ((d - 2000) / 100) + 1 = 2 * x.toInt.toNat + y.toInt.toNat by omega, show (d - 2000) % 100 = z.toInt.toNat by omega]
                   rw [hdo]
                   refine ctMk_put (p := (13 + 6 * y.toInt.toNat + x.toInt.toNat)) (x := z) c54.2.1 hml (by omega) ?_ (by omega) (fun k => by rw [hg87, zu_s2])
                   split <;> omega
                 refine r_iload4 dX12_amend_88 ?_
                 refine r_iret dX12_amend_90 rfl (Nat.le_of_ble_eq_true rfl) (Nat.le_of_ble_eq_true rfl) ?_
                 subst hd9
                 exact hQ hac hac2 _ g87 hrd (frM_tr (frM_su og41 (by decide) (by decide)) (frM_tr (frM_su o54 (by decide) (by decide)) (frM_su o87 (by decide) (by decide)))) (by rw [o87.2.2 4 (by decide), o54.2.2 4 (by decide)]; omega) c87)
            · first
              | (exfalso; omega)
              | (refine n_iconst dX12_amend_51 (by decide) (fun r51 e51 => ?_)
                 refine r_iret dX12_amend_52 rfl (Nat.le_of_ble_eq_true rfl) (Nat.le_of_ble_eq_true rfl) ?_
                 first
                   | exact hT1 (by omega) _ g41 og41 (by omega)
                   | exact hT2 (by omega) (by omega) _ g41 og41 (by omega)))
       · first
         | (exfalso; omega)
         | (refine r_iload3 dX12_amend_24 ?_
            refine n_i2l dX12_amend_25 (fun r25 e25_z => ?_)
            refine n_lconst (q := 0) dX12_amend_26 rfl (by decide) (fun r26 e26_z => ?_)
            refine n_ldc2 (n := 99) zk_RX12_368 dX12_amend_27 (by decide) (fun r27 e27_z => ?_)
            refine q_callS3 zm_RX12_138 dX12_amend_30 (Nat.le_of_ble_eq_true rfl) (Nat.le_of_ble_eq_true rfl) (Nat.le_of_ble_eq_true rfl) (Nat.le_of_ble_eq_true rfl) (Nat.le_of_ble_eq_true rfl) (s_X12_within G  (fun r30 e30 => ?_))
            refine t_ifeq (t := 40) dX12_amend_33 (by decide) (fun h33 => ?_) (fun h33 => ?_)
            · first
              | (exfalso; omega)
              | (refine n_iconst dX12_amend_40 (by decide) (fun r40 e40 => ?_)
                 refine m_putI zf_RX12_77 (by intro C T N h_z; cases h_z; rfl) rfl dX12_amend_41 (shM_k hs) ?_
                 obtain ⟨g41, hg41⟩ : ∃ g9, g9 = zu f A 4 r40 := ⟨_, rfl⟩
                 rw [← hg41]
                 have og41 : frM A [] [4] f g41 := by rw [hg41]; exact frM_zk frM_rf (by decide)
                 have vg41 : g41 A 4 = r40 := by rw [hg41]; exact zu_at
                 have vt41 : (g41 A 4).toInt = r40.toInt := by rw [vg41]
                 have hk41 : ctKn (g41 (A + 1)) T := by rw [og41.2.1 1 (by decide) (by decide) (by decide)]; exact hk
                 refine r_aloadR0 dX12_amend_44 ?_
                 refine m_getV (x := (g41 A 4)) zf_RX12_77 rfl dX12_amend_45 (shM_k hs) (rfl) ?_
                 refine t_ifle (t := 53) dX12_amend_48 (by decide) (fun h48 => ?_) (fun h48 => ?_)
                 · first
                   | (exfalso; omega)
                   | (refine r_aloadR0 dX12_amend_53 ?_
                      refine q_callV0 zm_RX12_362 dX12_amend_54 (shM_k hs) (by decide) rfl (Nat.le_of_ble_eq_true rfl) (Nat.le_of_ble_eq_true rfl) (Nat.le_of_ble_eq_true rfl) (Nat.le_of_ble_eq_true rfl) (Nat.le_of_ble_eq_true rfl) (s_X12_keeps G hs hk41 hw (fun g54 o54 c54 => ?_))
                      have hwk := wfT_kp hw
                      have hac : (0 ≤ x.toInt ∧ x.toInt < (tbC T : Nat)) := by omega
                      have hac2 : ((0 ≤ y.toInt ∧ y.toInt ≤ 1) ∧ 0 ≤ z.toInt ∧ z.toInt ≤ 99) := by omega
                      obtain ⟨d, hd9⟩ : ∃ d, d = (1000 + 1000 * y.toInt.toNat + 100 * x.toInt.toNat + z.toInt.toNat) := ⟨_, rfl⟩
                      have hod : okD (tbC T) T.2.2.1 d := by unfold okD; omega
                      have hrd : (g54 (A + 1) (13 + 6 * y.toInt.toNat + x.toInt.toNat)).toInt = (T.2.2.1.1 (2 * x.toInt.toNat + y.toInt.toNat) : Nat) := by
                        have h9 := c54.2.1.2.2 x.toInt.toNat (by omega)
                        rcases (show y.toInt.toNat = 0 ∨ y.toInt.toNat = 1 by omega) with h8 | h8
                        · rw [h8]; exact h9.1
                        · rw [h8]; exact h9.2
                      refine r_aloadR0 dX12_amend_57 ?_
                      refine m_getR (q := (A + 1)) zf_RX12_9 rfl dX12_amend_58 (shM_k hs) (shM_p1 hs) ?_
                      refine n_bipush dX12_amend_61 (by decide) (fun r61 e61 => ?_)
                      refine n_bipush dX12_amend_63 (by decide) (fun r63 e63 => ?_)
                      refine r_iload2 dX12_amend_65 ?_
                      refine n_imulc dX12_amend_66 e63 (by omega) (fun r66 e66 => ?_)
                      refine n_iadd dX12_amend_67 (by omega) (fun r67 e67 => ?_)
                      refine r_iload1 dX12_amend_68 ?_
                      refine n_iadd dX12_amend_69 (by omega) (fun r69 e69 => ?_)
                      refine m_iald (k := (13 + 6 * y.toInt.toNat + x.toInt.toNat)) (x := (g54 (A + 1) ((13 + 6 * y.toInt.toNat + x.toInt.toNat)))) dX12_amend_70 (shM_k1 hs) (shM_n1 hs) (by omega) (by omega) (rfl) ?_
                      refine r_istore4 dX12_amend_71 rfl ?_
                      refine r_aloadR0 dX12_amend_73 ?_
                      refine m_getR (q := (A + 1)) zf_RX12_9 rfl dX12_amend_74 (shM_k hs) (shM_p1 hs) ?_
                      refine n_bipush dX12_amend_77 (by decide) (fun r77 e77 => ?_)
                      refine n_bipush dX12_amend_79 (by decide) (fun r79 e79 => ?_)
                      refine r_iload2 dX12_amend_81 ?_
                      refine n_imulc dX12_amend_82 e79 (by omega) (fun r82 e82 => ?_)
                      refine n_iadd dX12_amend_83 (by omega) (fun r83 e83 => ?_)
                      refine r_iload1 dX12_amend_84 ?_
                      refine n_iadd dX12_amend_85 (by omega) (fun r85 e85 => ?_)
                      refine r_iload3 dX12_amend_86 ?_
                      refine m_iast (k := (13 + 6 * y.toInt.toNat + x.toInt.toNat)) dX12_amend_87 (shM_k1 hs) (shM_n1 hs) (by omega) (by omega) ?_
                      obtain ⟨g87, hg87⟩ : ∃ g9, g9 = zu g54 (A + 1) (13 + 6 * y.toInt.toNat + x.toInt.toNat) z := ⟨_, rfl⟩
                      rw [← hg87]
                      have o87 : frM A [1] [] g54 g87 := by rw [hg87]; exact frM_zr (r := 1) frM_rf (by decide) (by decide) (by decide)
                      have c87 : ctKn (g87 (A + 1)) (tbDo T d) := by
                        refine ctKn_nw (Mn := moDo T.2.2.1 d) c54 hwk (fun k hk => by rw [hg87, zu_nn (Or.inr (by omega))]) ?_
                        have hdo : moDo T.2.2.1 d = moPut T.2.2.1 (2 * x.toInt.toNat + y.toInt.toNat) z.toInt.toNat := by
                          unfold moDo
                          rcases (show y.toInt.toNat = 0 ∨ y.toInt.toNat = 1 by omega) with h8 | h8
                          · rw [if_neg (by omega), if_pos (by omega), show 2 * ((d - 1000) / 100) = 2 * x.toInt.toNat + y.toInt.toNat by omega, show (d - 1000) % 100 = z.toInt.toNat by omega]
                          · rw [if_pos (by omega), show 2 * ((d - 2000) / 100) + 1 = 2 * x.toInt.toNat + y.toInt.toNat by omega, show (d - 2000) % 100 = z.toInt.toNat by omega]
                        rw [hdo]
                        refine ctMk_put (p := (13 + 6 * y.toInt.toNat + x.toInt.toNat)) (x := z) c54.2.1 hml (by omega) ?_ (by omega) (fun k => by rw [hg87, zu_s2])
                        split <;> omega
                      refine r_iload4 dX12_amend_88 ?_
                      refine r_iret dX12_amend_90 rfl (Nat.le_of_ble_eq_true rfl) (Nat.le_of_ble_eq_true rfl) ?_
                      subst hd9
                      exact hQ hac hac2 _ g87 hrd (frM_tr (frM_su og41 (by decide) (by decide)) (frM_tr (frM_su o54 (by decide) (by decide)) (frM_su o87 (by decide) (by decide)))) (by rw [o87.2.2 4 (by decide), o54.2.2 4 (by decide)]; omega) c87)
                 · first
                   | (exfalso; omega)
                   | (refine n_iconst dX12_amend_51 (by decide) (fun r51 e51 => ?_)
                      refine r_iret dX12_amend_52 rfl (Nat.le_of_ble_eq_true rfl) (Nat.le_of_ble_eq_true rfl) ?_
                      first
                        | exact hT1 (by omega) _ g41 og41 (by omega)
                        | exact hT2 (by omega) (by omega) _ g41 og41 (by omega)))
            · first
              | (exfalso; omega)
              | (refine n_iconst dX12_amend_36 (by decide) (fun r36 e36 => ?_)
                 refine r_goto (t := 41) dX12_amend_37 (by decide) ?_
                 refine m_putI zf_RX12_77 (by intro C T N h_z; cases h_z; rfl) rfl dX12_amend_41 (shM_k hs) ?_
                 obtain ⟨g41, hg41⟩ : ∃ g9, g9 = zu f A 4 r36 := ⟨_, rfl⟩
                 rw [← hg41]
                 have og41 : frM A [] [4] f g41 := by rw [hg41]; exact frM_zk frM_rf (by decide)
                 have vg41 : g41 A 4 = r36 := by rw [hg41]; exact zu_at
                 have vt41 : (g41 A 4).toInt = r36.toInt := by rw [vg41]
                 have hk41 : ctKn (g41 (A + 1)) T := by rw [og41.2.1 1 (by decide) (by decide) (by decide)]; exact hk
                 refine r_aloadR0 dX12_amend_44 ?_
                 refine m_getV (x := (g41 A 4)) zf_RX12_77 rfl dX12_amend_45 (shM_k hs) (rfl) ?_
                 refine t_ifle (t := 53) dX12_amend_48 (by decide) (fun h48 => ?_) (fun h48 => ?_)
                 · first
                   | (exfalso; omega)
                   | (refine r_aloadR0 dX12_amend_53 ?_
                      refine q_callV0 zm_RX12_362 dX12_amend_54 (shM_k hs) (by decide) rfl (Nat.le_of_ble_eq_true rfl) (Nat.le_of_ble_eq_true rfl) (Nat.le_of_ble_eq_true rfl) (Nat.le_of_ble_eq_true rfl) (Nat.le_of_ble_eq_true rfl) (s_X12_keeps G hs hk41 hw (fun g54 o54 c54 => ?_))
                      have hwk := wfT_kp hw
                      have hac : (0 ≤ x.toInt ∧ x.toInt < (tbC T : Nat)) := by omega
                      have hac2 : ((0 ≤ y.toInt ∧ y.toInt ≤ 1) ∧ 0 ≤ z.toInt ∧ z.toInt ≤ 99) := by omega
                      obtain ⟨d, hd9⟩ : ∃ d, d = (1000 + 1000 * y.toInt.toNat + 100 * x.toInt.toNat + z.toInt.toNat) := ⟨_, rfl⟩
                      have hod : okD (tbC T) T.2.2.1 d := by unfold okD; omega
                      have hrd : (g54 (A + 1) (13 + 6 * y.toInt.toNat + x.toInt.toNat)).toInt = (T.2.2.1.1 (2 * x.toInt.toNat + y.toInt.toNat) : Nat) := by
                        have h9 := c54.2.1.2.2 x.toInt.toNat (by omega)
                        rcases (show y.toInt.toNat = 0 ∨ y.toInt.toNat = 1 by omega) with h8 | h8
                        · rw [h8]; exact h9.1
                        · rw [h8]; exact h9.2
                      refine r_aloadR0 dX12_amend_57 ?_
                      refine m_getR (q := (A + 1)) zf_RX12_9 rfl dX12_amend_58 (shM_k hs) (shM_p1 hs) ?_
                      refine n_bipush dX12_amend_61 (by decide) (fun r61 e61 => ?_)
                      refine n_bipush dX12_amend_63 (by decide) (fun r63 e63 => ?_)
                      refine r_iload2 dX12_amend_65 ?_
                      refine n_imulc dX12_amend_66 e63 (by omega) (fun r66 e66 => ?_)
                      refine n_iadd dX12_amend_67 (by omega) (fun r67 e67 => ?_)
                      refine r_iload1 dX12_amend_68 ?_
                      refine n_iadd dX12_amend_69 (by omega) (fun r69 e69 => ?_)
                      refine m_iald (k := (13 + 6 * y.toInt.toNat + x.toInt.toNat)) (x := (g54 (A + 1) ((13 + 6 * y.toInt.toNat + x.toInt.toNat)))) dX12_amend_70 (shM_k1 hs) (shM_n1 hs) (by omega) (by omega) (rfl) ?_
                      refine r_istore4 dX12_amend_71 rfl ?_
                      refine r_aloadR0 dX12_amend_73 ?_
                      refine m_getR (q := (A + 1)) zf_RX12_9 rfl dX12_amend_74 (shM_k hs) (shM_p1 hs) ?_
                      refine n_bipush dX12_amend_77 (by decide) (fun r77 e77 => ?_)
                      refine n_bipush dX12_amend_79 (by decide) (fun r79 e79 => ?_)
                      refine r_iload2 dX12_amend_81 ?_
                      refine n_imulc dX12_amend_82 e79 (by omega) (fun r82 e82 => ?_)
                      refine n_iadd dX12_amend_83 (by omega) (fun r83 e83 => ?_)
                      refine r_iload1 dX12_amend_84 ?_
                      refine n_iadd dX12_amend_85 (by omega) (fun r85 e85 => ?_)
                      refine r_iload3 dX12_amend_86 ?_
                      refine m_iast (k := (13 + 6 * y.toInt.toNat + x.toInt.toNat)) dX12_amend_87 (shM_k1 hs) (shM_n1 hs) (by omega) (by omega) ?_
                      obtain ⟨g87, hg87⟩ : ∃ g9, g9 = zu g54 (A + 1) (13 + 6 * y.toInt.toNat + x.toInt.toNat) z := ⟨_, rfl⟩
                      rw [← hg87]
                      have o87 : frM A [1] [] g54 g87 := by rw [hg87]; exact frM_zr (r := 1) frM_rf (by decide) (by decide) (by decide)
                      have c87 : ctKn (g87 (A + 1)) (tbDo T d) := by
                        refine ctKn_nw (Mn := moDo T.2.2.1 d) c54 hwk (fun k hk => by rw [hg87, zu_nn (Or.inr (by omega))]) ?_
                        have hdo : moDo T.2.2.1 d = moPut T.2.2.1 (2 * x.toInt.toNat + y.toInt.toNat) z.toInt.toNat := by
                          unfold moDo
                          rcases (show y.toInt.toNat = 0 ∨ y.toInt.toNat = 1 by omega) with h8 | h8
                          · rw [if_neg (by omega), if_pos (by omega), show 2 * ((d - 1000) / 100) = 2 * x.toInt.toNat + y.toInt.toNat by omega, show (d - 1000) % 100 = z.toInt.toNat by omega]
                          · rw [if_pos (by omega), show 2 * ((d - 2000) / 100) + 1 = 2 * x.toInt.toNat + y.toInt.toNat by omega, show (d - 2000) % 100 = z.toInt.toNat by omega]
                        rw [hdo]
                        refine ctMk_put (p := (13 + 6 * y.toInt.toNat + x.toInt.toNat)) (x := z) c54.2.1 hml (by omega) ?_ (by omega) (fun k => by rw [hg87, zu_s2])
                        split <;> omega
                      refine r_iload4 dX12_amend_88 ?_
                      refine r_iret dX12_amend_90 rfl (Nat.le_of_ble_eq_true rfl) (Nat.le_of_ble_eq_true rfl) ?_
                      subst hd9
                      exact hQ hac hac2 _ g87 hrd (frM_tr (frM_su og41 (by decide) (by decide)) (frM_tr (frM_su o54 (by decide) (by decide)) (frM_su o87 (by decide) (by decide)))) (by rw [o87.2.2 4 (by decide), o54.2.2 4 (by decide)]; omega) c87)
                 · first
                   | (exfalso; omega)
                   | (refine n_iconst dX12_amend_51 (by decide) (fun r51 e51 => ?_)
                      refine r_iret dX12_amend_52 rfl (Nat.le_of_ble_eq_true rfl) (Nat.le_of_ble_eq_true rfl) ?_
                      first
                        | exact hT1 (by omega) _ g41 og41 (by omega)
                        | exact hT2 (by omega) (by omega) _ g41 og41 (by omega)))))
  · first
    | (exfalso; omega)
    | (refine n_iconst dX12_amend_10 (by decide) (fun r10 e10_z => ?_)
       refine r_goto (t := 41) dX12_amend_11 (by decide) ?_
       refine m_putI zf_RX12_77 (by intro C T N h_z; cases h_z; rfl) rfl dX12_amend_41 (shM_k hs) ?_
       obtain ⟨g41, hg41⟩ : ∃ g9, g9 = zu f A 4 r10 := ⟨_, rfl⟩
       rw [← hg41]
       have og41 : frM A [] [4] f g41 := by rw [hg41]; exact frM_zk frM_rf (by decide)
       have vg41 : g41 A 4 = r10 := by rw [hg41]; exact zu_at
       have vt41 : (g41 A 4).toInt = r10.toInt := by rw [vg41]
       have hk41 : ctKn (g41 (A + 1)) T := by rw [og41.2.1 1 (by decide) (by decide) (by decide)]; exact hk
       refine r_aloadR0 dX12_amend_44 ?_
       refine m_getV (x := (g41 A 4)) zf_RX12_77 rfl dX12_amend_45 (shM_k hs) (rfl) ?_
       refine t_ifle (t := 53) dX12_amend_48 (by decide) (fun h48 => ?_) (fun h48 => ?_)
       · first
         | (exfalso; omega)
         | (refine r_aloadR0 dX12_amend_53 ?_
            refine q_callV0 zm_RX12_362 dX12_amend_54 (shM_k hs) (by decide) rfl (Nat.le_of_ble_eq_true rfl) (Nat.le_of_ble_eq_true rfl) (Nat.le_of_ble_eq_true rfl) (Nat.le_of_ble_eq_true rfl) (Nat.le_of_ble_eq_true rfl) (s_X12_keeps G hs hk41 hw (fun g54 o54 c54 => ?_))
            have hwk := wfT_kp hw
            have hac : (0 ≤ x.toInt ∧ x.toInt < (tbC T : Nat)) := by omega
            have hac2 : ((0 ≤ y.toInt ∧ y.toInt ≤ 1) ∧ 0 ≤ z.toInt ∧ z.toInt ≤ 99) := by omega
            obtain ⟨d, hd9⟩ : ∃ d, d = (1000 + 1000 * y.toInt.toNat + 100 * x.toInt.toNat + z.toInt.toNat) := ⟨_, rfl⟩
            have hod : okD (tbC T) T.2.2.1 d := by unfold okD; omega
            have hrd : (g54 (A + 1) (13 + 6 * y.toInt.toNat + x.toInt.toNat)).toInt = (T.2.2.1.1 (2 * x.toInt.toNat + y.toInt.toNat) : Nat) := by
              have h9 := c54.2.1.2.2 x.toInt.toNat (by omega)
              rcases (show y.toInt.toNat = 0 ∨ y.toInt.toNat = 1 by omega) with h8 | h8
              · rw [h8]; exact h9.1
              · rw [h8]; exact h9.2
            refine r_aloadR0 dX12_amend_57 ?_
            refine m_getR (q := (A + 1)) zf_RX12_9 rfl dX12_amend_58 (shM_k hs) (shM_p1 hs) ?_
            refine n_bipush dX12_amend_61 (by decide) (fun r61 e61 => ?_)
            refine n_bipush dX12_amend_63 (by decide) (fun r63 e63 => ?_)
            refine r_iload2 dX12_amend_65 ?_
            refine n_imulc dX12_amend_66 e63 (by omega) (fun r66 e66 => ?_)
            refine n_iadd dX12_amend_67 (by omega) (fun r67 e67 => ?_)
            refine r_iload1 dX12_amend_68 ?_
            refine n_iadd dX12_amend_69 (by omega) (fun r69 e69 => ?_)
            refine m_iald (k := (13 + 6 * y.toInt.toNat + x.toInt.toNat)) (x := (g54 (A + 1) ((13 + 6 * y.toInt.toNat + x.toInt.toNat)))) dX12_amend_70 (shM_k1 hs) (shM_n1 hs) (by omega) (by omega) (rfl) ?_
            refine r_istore4 dX12_amend_71 rfl ?_
            refine r_aloadR0 dX12_amend_73 ?_
            refine m_getR (q := (A + 1)) zf_RX12_9 rfl dX12_amend_74 (shM_k hs) (shM_p1 hs) ?_
            refine n_bipush dX12_amend_77 (by decide) (fun r77 e77 => ?_)
            refine n_bipush dX12_amend_79 (by decide) (fun r79 e79 => ?_)
            refine r_iload2 dX12_amend_81 ?_
            refine n_imulc dX12_amend_82 e79 (by omega) (fun r82 e82 => ?_)
            refine n_iadd dX12_amend_83 (by omega) (fun r83 e83 => ?_)
            refine r_iload1 dX12_amend_84 ?_
            refine n_iadd dX12_amend_85 (by omega) (fun r85 e85 => ?_)
            refine r_iload3 dX12_amend_86 ?_
            refine m_iast (k := (13 + 6 * y.toInt.toNat + x.toInt.toNat)) dX12_amend_87 (shM_k1 hs) (shM_n1 hs) (by omega) (by omega) ?_
            obtain ⟨g87, hg87⟩ : ∃ g9, g9 = zu g54 (A + 1) (13 + 6 * y.toInt.toNat + x.toInt.toNat) z := ⟨_, rfl⟩
            rw [← hg87]
            have o87 : frM A [1] [] g54 g87 := by rw [hg87]; exact frM_zr (r := 1) frM_rf (by decide) (by decide) (by decide)
            have c87 : ctKn (g87 (A + 1)) (tbDo T d) := by
              refine ctKn_nw (Mn := moDo T.2.2.1 d) c54 hwk (fun k hk => by rw [hg87, zu_nn (Or.inr (by omega))]) ?_
              have hdo : moDo T.2.2.1 d = moPut T.2.2.1 (2 * x.toInt.toNat + y.toInt.toNat) z.toInt.toNat := by
                unfold moDo
                rcases (show y.toInt.toNat = 0 ∨ y.toInt.toNat = 1 by omega) with h8 | h8
                · rw [if_neg (by omega), if_pos (by omega), show 2 * ((d - 1000) / 100) = 2 * x.toInt.toNat + y.toInt.toNat by omega, show (d - 1000) % 100 = z.toInt.toNat by omega]
                · rw [if_pos (by omega), show 2 * ((d - 2000) / 100) + 1 = 2 * x.toInt.toNat + y.toInt.toNat by omega, show (d - 2000) % 100 = z.toInt.toNat by omega]
              rw [hdo]
              refine ctMk_put (p := (13 + 6 * y.toInt.toNat + x.toInt.toNat)) (x := z) c54.2.1 hml (by omega) ?_ (by omega) (fun k => by rw [hg87, zu_s2])
              split <;> omega
            refine r_iload4 dX12_amend_88 ?_
            refine r_iret dX12_amend_90 rfl (Nat.le_of_ble_eq_true rfl) (Nat.le_of_ble_eq_true rfl) ?_
            subst hd9
            exact hQ hac hac2 _ g87 hrd (frM_tr (frM_su og41 (by decide) (by decide)) (frM_tr (frM_su o54 (by decide) (by decide)) (frM_su o87 (by decide) (by decide)))) (by rw [o87.2.2 4 (by decide), o54.2.2 4 (by decide)]; omega) c87)
       · first
         | (exfalso; omega)
         | (refine n_iconst dX12_amend_51 (by decide) (fun r51 e51 => ?_)
            refine r_iret dX12_amend_52 rfl (Nat.le_of_ble_eq_true rfl) (Nat.le_of_ble_eq_true rfl) ?_
            first
              | exact hT1 (by omega) _ g41 og41 (by omega)
              | exact hT2 (by omega) (by omega) _ g41 og41 (by omega)))
theorem wfT_pl {T : zTb} {i : Nat} {Mp : zMo} (hw : wfT T) (h_z : T.2.2.2[i]? = some Mp) : Mp.2.length ≤ 5 := (hw.2.2.2.2.2.2.2.2.2 Mp (List.mem_of_getElem? h_z)).2.1
set_option maxHeartbeats 4000000 in
set_option maxRecDepth 100000 in
theorem s_X12_undo {g : zGT} {w : zW} {f : Nat → Nat → Int32} {j : Nat → Nat → Int64} {A : Nat} {T : zTb} {x : Int32} {Q : Option Value → zW → Prop} {QX : String → zW → Prop} (G : zGok g) (hs : shM w A) (hk : ctKn (f (A + 1)) T) (hw : wfT T) (hT1 : ¬ (1 ≤ x.toInt ∧ x.toInt ≤ (T.2.2.2.length : Nat)) → ∀ (r : Int32) f2_z, frM A [] [4] f f2_z → (f2_z A 4).toInt = 1 → Q (some (.int r)) (zM w f2_z j)) (hQ : (1 ≤ x.toInt ∧ x.toInt ≤ (T.2.2.2.length : Nat)) → ∀ (r : Int32) f2_z, r.toInt = ((T.2.2.2.length - x.toInt.toNat : Nat) : Int) → frM A [1] [4] f f2_z → (f2_z A 4).toInt = 0 → ctKn (f2_z (A + 1)) (tbBack T x.toInt.toNat) → Q (some (.int r)) (zM w f2_z j)) : zC g 2 yX12_undo cX12_undo 3 (some .int) [.ref A, .int x] (zM w f j) (0, 0) Q QX := by
  refine zC_of G (by decide +kernel) (Nat.le_of_ble_eq_true rfl) ?_
  have hk9 := hk
  obtain ⟨⟨k0_z, k1_z, k2_z, k3_z, k4_z, k5_z, k6_z⟩, km, kg, kp, kl1, kl2, kl3⟩ := hk9
  have km9 := km
  obtain ⟨m1_z, m2_z, m3_z⟩ := km9
  have hn6 : tbC T ≤ 6 := hw.2.1
  have hg4 : tbG T ≤ 4 := hw.2.2.1
  have hwm := hw.2.2.2.2.2.2.2.1
  have hml : T.2.2.1.2.length ≤ 5 := hwm.2.1
  have hm99 := hwm.2.2
  have hrt := wfT_rch hw
  have hLl : (tbL T).length ≤ 6 := Nat.le_trans (rch_cell hrt).2.2.2.2 hn6
  have hpl : T.2.2.2.length ≤ 10 := hw.2.2.2.2.2.2.2.2.1
  rcases Classical.em (1 ≤ x.toInt ∧ x.toInt ≤ (T.2.2.2.length : Nat)) with hu | hu
  · refine r_aloadR0 dX12_undo_0 ?_
    refine n_iconst dX12_undo_1 (by decide) (fun r1 e1_z => ?_)
    refine m_putI zf_RX12_77 (by intro C T N h_z; cases h_z; rfl) rfl dX12_undo_2 (shM_k hs) ?_
    obtain ⟨g2, hg2⟩ : ∃ g9, g9 = zu f A 4 r1 := ⟨_, rfl⟩
    rw [← hg2]
    have og2 : frM A [] [4] f g2 := by rw [hg2]; exact frM_zk frM_rf (by decide)
    have vg2 : g2 A 4 = r1 := by rw [hg2]; exact zu_at
    have vt2 : (g2 A 4).toInt = r1.toInt := by rw [vg2]
    have hk2 : ctKn (g2 (A + 1)) T := by rw [og2.2.1 1 (by decide) (by decide) (by decide)]; exact hk
    refine r_iload1 dX12_undo_5 ?_
    refine n_i2l dX12_undo_6 (fun r6 e6_z => ?_)
    refine n_lconst (q := 1) dX12_undo_7 rfl (by decide) (fun r7 e7_z => ?_)
    refine n_ldc2 (n := 10) zk_RX12_370 dX12_undo_8 (by decide) (fun r8 e8 => ?_)
    refine q_callS3 zm_RX12_138 dX12_undo_11 (Nat.le_of_ble_eq_true rfl) (Nat.le_of_ble_eq_true rfl) (Nat.le_of_ble_eq_true rfl) (Nat.le_of_ble_eq_true rfl) (Nat.le_of_ble_eq_true rfl) (s_X12_within G  (fun r11 e11_z => ?_))
    refine t_ifeq (t := 28) dX12_undo_14 (by decide) (fun h14 => False.elim (by omega)) (fun h14 => ?_)
    have k6b : (g2 (A + 1) 6).toInt = (T.2.2.2.length : Nat) := hk2.1.2.2.2.2.2.2
    refine r_iload1 dX12_undo_17 ?_
    refine r_aloadR0 dX12_undo_18 ?_
    refine m_getR (q := (A + 1)) zf_RX12_9 rfl dX12_undo_19 (shM_k hs) (shM_p1 hs) ?_
    refine n_bipush dX12_undo_22 (by decide) (fun r22 e22_z => ?_)
    refine m_iald (k := 6) (x := (g2 (A + 1) 6)) dX12_undo_24 (shM_k1 hs) (shM_n1 hs) (by omega) (by omega) (rfl) ?_
    refine t_icle (t := 34) dX12_undo_25 (by decide) (fun h25 => ?_) (fun h25 => False.elim (by omega))
    refine r_aloadR0 dX12_undo_34 ?_
    refine m_getR (q := (A + 1)) zf_RX12_9 rfl dX12_undo_35 (shM_k hs) (shM_p1 hs) ?_
    refine n_bipush dX12_undo_38 (by decide) (fun r38 e38 => ?_)
    refine r_dup2 dX12_undo_40 rfl rfl ?_
    refine m_iald (k := 6) (x := (g2 (A + 1) 6)) dX12_undo_41 (shM_k1 hs) (shM_n1 hs) (by omega) (by omega) (rfl) ?_
    refine r_iload1 dX12_undo_42 ?_
    refine n_isub dX12_undo_43 (by omega) (fun r43 e43 => ?_)
    refine m_iast (k := 6) dX12_undo_44 (shM_k1 hs) (shM_n1 hs) (by omega) (by omega) ?_
    have hv44 : r43.toInt = ((T.2.2.2.length - x.toInt.toNat : Nat) : Int) := by omega
    obtain ⟨g44, hg44⟩ : ∃ g9, g9 = zu g2 (A + 1) 6 r43 := ⟨_, rfl⟩
    rw [← hg44]
    obtain ⟨n, hn9⟩ : ∃ n, n = T.2.2.2.length - x.toInt.toNat := ⟨_, rfl⟩
    rw [← hn9] at hv44
    have hg6 : (g44 (A + 1) 6).toInt = (n : Nat) := by rw [hg44, zu_at]; exact hv44
    have lp : ∀ (mz : Nat) (c : Int32) (k : Nat) (f2_z : Nat → Nat → Int32), c.toInt = (k : Nat) → k ≤ 18 → (∀ q, q ≠ A + 1 → f2_z q = g44 q) → (∀ i, i < k → f2_z (A + 1) (7 + i) = g44 (A + 1) (29 + 18 * n + i)) → (∀ i, (i < 7 ∨ 7 + k ≤ i) → f2_z (A + 1) i = g44 (A + 1) i) → 18 - k < mz → zR (zV g 2 yX12_undo 3 (some .int) (0, 0) Q QX) cX12_undo yX12_undo.cls 47 [some (.ref A), some (.int x), some (.int c)] [] (zM w f2_z j) (0, 0) := by
      intro mz
      induction mz with
      | zero =>
        intro c k f2_z hck hk8 ho hd_z hr hmz
        exact absurd hmz (Nat.not_lt_zero _)
      | succ mz ih =>
        intro c k f2_z hck hk8 ho hd_z hr hmz
        have hr6 : (f2_z (A + 1) 6).toInt = (n : Nat) := by rw [hr 6 (by omega)]; exact hg6
        rcases Nat.lt_or_ge k 18 with hkl | hkl
        · refine r_iload2 dX12_undo_47 ?_
          refine n_bipush dX12_undo_48 (by decide) (fun r48 e48 => ?_)
          refine t_icge (t := 88) dX12_undo_50 (by decide) (fun h50 => False.elim (by omega)) (fun h50 => ?_)
          refine r_aloadR0 dX12_undo_53 ?_
          refine m_getR (q := (A + 1)) zf_RX12_9 rfl dX12_undo_54 (shM_k hs) (shM_p1 hs) ?_
          refine n_bipush dX12_undo_57 (by decide) (fun r57 e57 => ?_)
          refine r_iload2 dX12_undo_59 ?_
          refine n_iadd dX12_undo_60 (by omega) (fun r60 e60 => ?_)
          refine r_aloadR0 dX12_undo_61 ?_
          refine m_getR (q := (A + 1)) zf_RX12_9 rfl dX12_undo_62 (shM_k hs) (shM_p1 hs) ?_
          refine n_bipush dX12_undo_65 (by decide) (fun r65 e65 => ?_)
          refine n_bipush dX12_undo_67 (by decide) (fun r67 e67 => ?_)
          refine r_aloadR0 dX12_undo_69 ?_
          refine m_getR (q := (A + 1)) zf_RX12_9 rfl dX12_undo_70 (shM_k hs) (shM_p1 hs) ?_
          refine n_bipush dX12_undo_73 (by decide) (fun r73 e73 => ?_)
          refine m_iald (k := 6) (x := (f2_z (A + 1) 6)) dX12_undo_75 (shM_k1 hs) (shM_n1 hs) (by omega) (by omega) (rfl) ?_
          refine n_imulc dX12_undo_76 e67 (by omega) (fun r76 e76 => ?_)
          refine n_iadd dX12_undo_77 (by omega) (fun r77 e77 => ?_)
          refine r_iload2 dX12_undo_78 ?_
          refine n_iadd dX12_undo_79 (by omega) (fun r79 e79 => ?_)
          refine m_iald (k := (29 + 18 * n + k)) (x := (f2_z (A + 1) ((29 + 18 * n + k)))) dX12_undo_80 (shM_k1 hs) (shM_n1 hs) (by omega) (by omega) (rfl) ?_
          refine m_iast (k := (7 + k)) dX12_undo_81 (shM_k1 hs) (shM_n1 hs) (by omega) (by omega) ?_
          refine n_iinc2 dX12_undo_82 (by decide) rfl (by omega) (fun r82 e82 => ?_)
          refine r_goto (t := 47) dX12_undo_85 (by decide) ?_
          refine ih _ (k + 1) _ (by omega) (by omega) (fun q hq => (zu_ne hq).trans (ho q hq)) (fun i hi_z => ?_) (fun i hi_z => ?_) (by omega)
          · rcases Nat.lt_or_ge i k with h9 | h9
            · rw [zu_nn (Or.inr (by omega))]
              exact hd_z i h9
            · rw [show i = k by omega, zu_at]
              exact hr _ (by omega)
          · rw [zu_nn (Or.inr (by omega))]
            exact hr i (by omega)
        · refine r_iload2 dX12_undo_47 ?_
          refine n_bipush dX12_undo_48 (by decide) (fun r48 e48 => ?_)
          refine t_icge (t := 88) dX12_undo_50 (by decide) (fun h50 => ?_) (fun h50 => False.elim (by omega))
          refine r_aloadR0 dX12_undo_88 ?_
          refine m_getR (q := (A + 1)) zf_RX12_9 rfl dX12_undo_89 (shM_k hs) (shM_p1 hs) ?_
          refine n_bipush dX12_undo_92 (by decide) (fun r92 e92_z => ?_)
          refine m_iald (k := 6) (x := (f2_z (A + 1) 6)) dX12_undo_94 (shM_k1 hs) (shM_n1 hs) (by omega) (by omega) (rfl) ?_
          refine r_iret dX12_undo_95 rfl (Nat.le_of_ble_eq_true rfl) (Nat.le_of_ble_eq_true rfl) ?_
          have hfm : frM A [1] [4] f f2_z := ⟨fun q hq => by rw [ho q (by omega), hg44]; exact (zu_ne (by omega)).trans (og2.1 q hq), fun r h2 h3 h4 => ?_, fun k9 hk9 => by rw [ho A (by omega), hg44, zu_ne (by omega)]; exact og2.2.2 k9 hk9⟩
          · refine hQ hu _ f2_z (by omega) hfm (by rw [ho A (by omega), hg44, zu_ne (by omega)]; omega) (ctKn_mo hk hw (fun k9 hk9 => ?_) ?_ ?_ (fun i Mp hi_z => ?_))
            · rw [hr k9 (by omega), hg44, zu_nn (Or.inr (by omega)), og2.2.1 1 (by decide) (by decide) (by decide)]
            · rw [hr6, List.length_take]; omega
            · obtain ⟨Mp, hMp⟩ : ∃ Mp, T.2.2.2[n]? = some Mp := ⟨_, List.getElem?_eq_getElem (by omega)⟩
              rw [show T.2.2.2.length - x.toInt.toNat = n by omega, hMp]
              refine ctMk_mv (kp n Mp hMp) (wfT_pl hw hMp) (fun i hi_z => ?_)
              rw [hd_z i (by omega), hg44, zu_nn (Or.inr (by omega)), og2.2.1 1 (by decide) (by decide) (by decide)]
            · rw [List.getElem?_take] at hi_z
              split at hi_z
              · refine ctMk_mv (kp i Mp hi_z) (wfT_pl hw hi_z) (fun i9_z hi9 => ?_)
                rw [hr _ (by omega), hg44, zu_nn (Or.inr (by omega)), og2.2.1 1 (by decide) (by decide) (by decide)]
              · exact absurd hi_z (by simp)
          · rw [ho _ (by intro e9_z; exact h4 (by simp; omega)), hg44, zu_ne (by intro e9_z; exact h4 (by simp; omega))]
            exact og2.2.1 r h2 h3 (by simp)
    refine n_iconst dX12_undo_45 (by decide) (fun r45 e45 => ?_)
    refine r_istore2 dX12_undo_46 rfl ?_
    exact lp 19 _ 0 g44 (by omega) (by omega) (fun q hq => rfl) (fun i hi_z => absurd hi_z (by omega)) (fun i hi_z => rfl) (by omega)
  · refine r_aloadR0 dX12_undo_0 ?_
    refine n_iconst dX12_undo_1 (by decide) (fun r1 e1_z => ?_)
    refine m_putI zf_RX12_77 (by intro C T N h_z; cases h_z; rfl) rfl dX12_undo_2 (shM_k hs) ?_
    obtain ⟨g2, hg2⟩ : ∃ g9, g9 = zu f A 4 r1 := ⟨_, rfl⟩
    rw [← hg2]
    have og2 : frM A [] [4] f g2 := by rw [hg2]; exact frM_zk frM_rf (by decide)
    have vg2 : g2 A 4 = r1 := by rw [hg2]; exact zu_at
    have vt2 : (g2 A 4).toInt = r1.toInt := by rw [vg2]
    have hk2 : ctKn (g2 (A + 1)) T := by rw [og2.2.1 1 (by decide) (by decide) (by decide)]; exact hk
    refine r_iload1 dX12_undo_5 ?_
    refine n_i2l dX12_undo_6 (fun r6 e6_z => ?_)
    refine n_lconst (q := 1) dX12_undo_7 rfl (by decide) (fun r7 e7_z => ?_)
    refine n_ldc2 (n := 10) zk_RX12_370 dX12_undo_8 (by decide) (fun r8 e8 => ?_)
    refine q_callS3 zm_RX12_138 dX12_undo_11 (Nat.le_of_ble_eq_true rfl) (Nat.le_of_ble_eq_true rfl) (Nat.le_of_ble_eq_true rfl) (Nat.le_of_ble_eq_true rfl) (Nat.le_of_ble_eq_true rfl) (s_X12_within G  (fun r11 e11_z => ?_))
    refine t_ifeq (t := 28) dX12_undo_14 (by decide) (fun h14 => ?_) (fun h14 => ?_)
    · refine r_aloadR0 dX12_undo_28 ?_
      refine n_iconst dX12_undo_29 (by decide) (fun r29 e29 => ?_)
      refine q_callV1 zm_RX12_244 dX12_undo_30 (shM_k hs) (by decide) rfl (Nat.le_of_ble_eq_true rfl) (Nat.le_of_ble_eq_true rfl) (Nat.le_of_ble_eq_true rfl) (Nat.le_of_ble_eq_true rfl) (Nat.le_of_ble_eq_true rfl) (s_X12_fails G hs (fun r30 g30 e30 o30 v30 => ?_))
      refine r_iret dX12_undo_33 rfl (Nat.le_of_ble_eq_true rfl) (Nat.le_of_ble_eq_true rfl) ?_
      exact hT1 hu _ g30 (frM_tr (frM_su og2 (by decide) (by decide)) (frM_su o30 (by decide) (by decide))) (by rw [v30]; exact e29)
    · have k6b : (g2 (A + 1) 6).toInt = (T.2.2.2.length : Nat) := hk2.1.2.2.2.2.2.2
      refine r_iload1 dX12_undo_17 ?_
      refine r_aloadR0 dX12_undo_18 ?_
      refine m_getR (q := (A + 1)) zf_RX12_9 rfl dX12_undo_19 (shM_k hs) (shM_p1 hs) ?_
      refine n_bipush dX12_undo_22 (by decide) (fun r22 e22_z => ?_)
      refine m_iald (k := 6) (x := (g2 (A + 1) 6)) dX12_undo_24 (shM_k1 hs) (shM_n1 hs) (by omega) (by omega) (rfl) ?_
      refine t_icle (t := 34) dX12_undo_25 (by decide) (fun h25 => False.elim (by omega)) (fun h25 => ?_)
      refine r_aloadR0 dX12_undo_28 ?_
      refine n_iconst dX12_undo_29 (by decide) (fun r29 e29 => ?_)
      refine q_callV1 zm_RX12_244 dX12_undo_30 (shM_k hs) (by decide) rfl (Nat.le_of_ble_eq_true rfl) (Nat.le_of_ble_eq_true rfl) (Nat.le_of_ble_eq_true rfl) (Nat.le_of_ble_eq_true rfl) (Nat.le_of_ble_eq_true rfl) (s_X12_fails G hs (fun r30 g30 e30 o30 v30 => ?_))
      refine r_iret dX12_undo_33 rfl (Nat.le_of_ble_eq_true rfl) (Nat.le_of_ble_eq_true rfl) ?_
      exact hT1 hu _ g30 (frM_tr (frM_su og2 (by decide) (by decide)) (frM_su o30 (by decide) (by decide))) (by rw [v30]; exact e29)
