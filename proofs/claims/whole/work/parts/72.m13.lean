/-! the reference: numbers written, marks copied, images, what is counted, the tape -/

set_option maxHeartbeats 4000000 in
set_option maxRecDepth 100000 in
theorem s_X12_write {g : zGT} {w : zW} {f : Nat → Nat → Int32} {j : Nat → Nat → Int64} {A : Nat} {x y : Int32} {v : Int64} {ty : Nat → zTy} {Q : Option Value → zW → Prop} {QX : String → zW → Prop} (G : zGok g) (hs : shM w A) (hty : ∀ t, t < 4 → ctTm f j A t (ty t)) (hT1 : ¬ (0 ≤ x.toInt ∧ x.toInt < 4) → ∀ (r : Int64) f2_z, frM A [] [4] f f2_z → (f2_z A 4).toInt = 1 → Q (some (.long r)) (zM w f2_z j)) (hT2 : (0 ≤ x.toInt ∧ x.toInt < 4) → ty x.toInt.toNat = none → ∀ (r : Int64) f2_z, frM A [] [4] f f2_z → (f2_z A 4).toInt = 2 → Q (some (.long r)) (zM w f2_z j)) (hT3 : (0 ≤ x.toInt ∧ x.toInt < 4) → ∀ s l, ty x.toInt.toNat = some (s, l) → ¬ (0 ≤ y.toInt ∧ y.toInt < (l.length : Nat)) → ∀ (r : Int64) f2_z, frM A [] [4] f f2_z → (f2_z A 4).toInt = 3 → Q (some (.long r)) (zM w f2_z j)) (hQ : (0 ≤ x.toInt ∧ x.toInt < 4) → ∀ s l, ty x.toInt.toNat = some (s, l) → (0 ≤ y.toInt ∧ y.toInt < (l.length : Nat)) → ∀ (r : Int64) f2_z j2, r.toInt = cutI s v.toInt → frM A [] [4] f f2_z → (f2_z A 4).toInt = 0 → (∀ q, q ≠ A + 20 → j2 q = j q) → ctTm f2_z j2 A x.toInt.toNat (some (s, l.set y.toInt.toNat (cutI s v.toInt))) → (∀ t2 ty2, t2 < 4 → t2 ≠ x.toInt.toNat → ctTm f j A t2 ty2 → ctTm f2_z j2 A t2 ty2) → Q (some (.long r)) (zM w f2_z j2)) : zC g 4 yX12_write cX12_write 5 (some .long) [.ref A, .int x, .int y, .long v] (zM w f j) (0, 0) Q QX := by
  refine zC_of G (by decide +kernel) (Nat.le_of_ble_eq_true rfl) ?_
  rcases Classical.em (0 ≤ x.toInt ∧ x.toInt < 4) with hok | hok
  · have hct := hty _ (show x.toInt.toNat < 4 by omega)
    cases hcs : ty x.toInt.toNat with
    | none =>
      rw [hcs] at hct
      have hno : (f (A + 18) x.toInt.toNat).toInt = -1 := hct
      refine r_aloadR0 dX12_write_0 ?_
      refine r_aloadR0 dX12_write_1 ?_
      refine r_iload1 dX12_write_2 ?_
      refine q_callV1 zm_RX12_389 dX12_write_3 (shM_k hs) (by decide) rfl (Nat.le_of_ble_eq_true rfl) (Nat.le_of_ble_eq_true rfl) (Nat.le_of_ble_eq_true rfl) (Nat.le_of_ble_eq_true rfl) (Nat.le_of_ble_eq_true rfl) (s_X12_trayFault G hs (fun r3 e3_z => ?_))
      rw [if_pos (by omega), if_pos hno] at e3_z
      refine m_putI zf_RX12_77 (by intro C T N h_z; cases h_z; rfl) rfl dX12_write_6 (shM_k hs) ?_
      obtain ⟨g6, hg6⟩ : ∃ g9, g9 = zu f A 4 r3 := ⟨_, rfl⟩
      rw [← hg6]
      have og6 : frM A [] [4] f g6 := by rw [hg6]; exact frM_zk frM_rf (by decide)
      have vg6 : g6 A 4 = r3 := by rw [hg6]; exact zu_at
      have vt6 : (g6 A 4).toInt = r3.toInt := by rw [vg6]
      refine r_aloadR0 dX12_write_9 ?_
      refine m_getV (x := (g6 A 4)) zf_RX12_77 rfl dX12_write_10 (shM_k hs) (rfl) ?_
      refine t_ifle (t := 18) dX12_write_13 (by decide) (fun h13 => False.elim (by omega)) (fun h13 => ?_)
      refine n_lconst (q := 0) dX12_write_16 rfl (by decide) (fun r16 e16_z => ?_)
      refine r_lret dX12_write_17 rfl (Nat.le_of_ble_eq_true rfl) (Nat.le_of_ble_eq_true rfl) ?_
      exact hT2 hok hcs _ g6 og6 (by omega)
    | some q =>
      obtain ⟨s, l⟩ := q
      rw [hcs] at hct
      obtain ⟨t1, t2, t3, t4, t5⟩ := hct
      have hg18 : ∀ g9 : Nat → Nat → Int32, frM A [] [4] f g9 → ∀ t2 ty2, ctTm f j A t2 ty2 → ctTm g9 j A t2 ty2 := fun g9 o9 t2 ty2 h9 => ctTm_of h9 (by rw [o9.2.1 18 (by decide) (by decide) (by decide)]) (by rw [o9.2.1 19 (by decide) (by decide) (by decide)]) (fun _ _ => rfl)
      rcases Classical.em (0 ≤ y.toInt ∧ y.toInt < (l.length : Nat)) with hpc | hpc
      · refine r_aloadR0 dX12_write_0 ?_
        refine r_aloadR0 dX12_write_1 ?_
        refine r_iload1 dX12_write_2 ?_
        refine q_callV1 zm_RX12_389 dX12_write_3 (shM_k hs) (by decide) rfl (Nat.le_of_ble_eq_true rfl) (Nat.le_of_ble_eq_true rfl) (Nat.le_of_ble_eq_true rfl) (Nat.le_of_ble_eq_true rfl) (Nat.le_of_ble_eq_true rfl) (s_X12_trayFault G hs (fun r3 e3_z => ?_))
        rw [if_pos (by omega), if_neg (by omega)] at e3_z
        refine m_putI zf_RX12_77 (by intro C T N h_z; cases h_z; rfl) rfl dX12_write_6 (shM_k hs) ?_
        obtain ⟨g6, hg6⟩ : ∃ g9, g9 = zu f A 4 r3 := ⟨_, rfl⟩
        rw [← hg6]
        have og6 : frM A [] [4] f g6 := by rw [hg6]; exact frM_zk frM_rf (by decide)
        have vg6 : g6 A 4 = r3 := by rw [hg6]; exact zu_at
        have vt6 : (g6 A 4).toInt = r3.toInt := by rw [vg6]
        refine r_aloadR0 dX12_write_9 ?_
        refine m_getV (x := (g6 A 4)) zf_RX12_77 rfl dX12_write_10 (shM_k hs) (rfl) ?_
        refine t_ifle (t := 18) dX12_write_13 (by decide) (fun h13 => ?_) (fun h13 => False.elim (by omega))
        refine r_iload2 dX12_write_18 ?_
        refine n_i2l dX12_write_19 (fun r19 e19_z => ?_)
        refine n_lconst (q := 0) dX12_write_20 rfl (by decide) (fun r20 e20 => ?_)
        refine r_aloadR0 dX12_write_21 ?_
        have h19 : (g6 (A + 19) x.toInt.toNat).toInt = (l.length : Nat) := by rw [og6.2.1 19 (by decide) (by decide) (by decide)]; exact t3
        refine m_getR (q := (A + 19)) zf_RX12_71 rfl dX12_write_22 (shM_k hs) (shM_p19 hs) ?_
        refine r_iload1 dX12_write_25 ?_
        refine m_iald (k := x.toInt.toNat) (x := (g6 (A + 19) x.toInt.toNat)) dX12_write_26 (shM_k19 hs) (shM_n19 hs) (by omega) (by omega) (rfl) ?_
        refine n_iconst dX12_write_27 (by decide) (fun r27 e27_z => ?_)
        refine n_isub dX12_write_28 (by omega) (fun r28 e28_z => ?_)
        refine n_i2l dX12_write_29 (fun r29 e29 => ?_)
        refine q_callS3 zm_RX12_138 dX12_write_30 (Nat.le_of_ble_eq_true rfl) (Nat.le_of_ble_eq_true rfl) (Nat.le_of_ble_eq_true rfl) (Nat.le_of_ble_eq_true rfl) (Nat.le_of_ble_eq_true rfl) (s_X12_within G  (fun r30 e30 => ?_))
        refine t_ifeq (t := 46) dX12_write_33 (by decide) (fun h33 => False.elim (by omega)) (fun h33 => ?_)
        refine r_aloadR0 dX12_write_36 ?_
        refine r_iload1 dX12_write_37 ?_
        refine r_iload2 dX12_write_38 ?_
        refine r_lload3 dX12_write_39 ?_
        refine q_callV3 zm_RX12_564 dX12_write_40 (shM_k hs) (by decide) rfl (Nat.le_of_ble_eq_true rfl) (Nat.le_of_ble_eq_true rfl) (Nat.le_of_ble_eq_true rfl) (Nat.le_of_ble_eq_true rfl) (Nat.le_of_ble_eq_true rfl) (s_X12_cut (t := x.toInt.toNat) (s := s) (k := y.toInt.toNat) (l := l) G hs (by omega) (by omega) (by omega) (by omega) (hg18 g6 og6 _ _ ⟨t1, t2, t3, t4, t5⟩) (fun r40 j40 e40 a1 a2 a3 => ?_))
        refine r_goto (t := 52) dX12_write_43 (by decide) ?_
        refine r_lret dX12_write_52 rfl (Nat.le_of_ble_eq_true rfl) (Nat.le_of_ble_eq_true rfl) ?_
        exact hQ hok s l hcs hpc _ g6 j40 e40 og6 (by omega) a1 a2 (fun t2_ ty2 h2 h3 h4 => a3 t2_ ty2 h2 h3 (hg18 g6 og6 _ _ h4))
      · refine r_aloadR0 dX12_write_0 ?_
        refine r_aloadR0 dX12_write_1 ?_
        refine r_iload1 dX12_write_2 ?_
        refine q_callV1 zm_RX12_389 dX12_write_3 (shM_k hs) (by decide) rfl (Nat.le_of_ble_eq_true rfl) (Nat.le_of_ble_eq_true rfl) (Nat.le_of_ble_eq_true rfl) (Nat.le_of_ble_eq_true rfl) (Nat.le_of_ble_eq_true rfl) (s_X12_trayFault G hs (fun r3 e3_z => ?_))
        rw [if_pos (by omega), if_neg (by omega)] at e3_z
        refine m_putI zf_RX12_77 (by intro C T N h_z; cases h_z; rfl) rfl dX12_write_6 (shM_k hs) ?_
        obtain ⟨g6, hg6⟩ : ∃ g9, g9 = zu f A 4 r3 := ⟨_, rfl⟩
        rw [← hg6]
        have og6 : frM A [] [4] f g6 := by rw [hg6]; exact frM_zk frM_rf (by decide)
        have vg6 : g6 A 4 = r3 := by rw [hg6]; exact zu_at
        have vt6 : (g6 A 4).toInt = r3.toInt := by rw [vg6]
        refine r_aloadR0 dX12_write_9 ?_
        refine m_getV (x := (g6 A 4)) zf_RX12_77 rfl dX12_write_10 (shM_k hs) (rfl) ?_
        refine t_ifle (t := 18) dX12_write_13 (by decide) (fun h13 => ?_) (fun h13 => False.elim (by omega))
        refine r_iload2 dX12_write_18 ?_
        refine n_i2l dX12_write_19 (fun r19 e19_z => ?_)
        refine n_lconst (q := 0) dX12_write_20 rfl (by decide) (fun r20 e20 => ?_)
        refine r_aloadR0 dX12_write_21 ?_
        have h19 : (g6 (A + 19) x.toInt.toNat).toInt = (l.length : Nat) := by rw [og6.2.1 19 (by decide) (by decide) (by decide)]; exact t3
        refine m_getR (q := (A + 19)) zf_RX12_71 rfl dX12_write_22 (shM_k hs) (shM_p19 hs) ?_
        refine r_iload1 dX12_write_25 ?_
        refine m_iald (k := x.toInt.toNat) (x := (g6 (A + 19) x.toInt.toNat)) dX12_write_26 (shM_k19 hs) (shM_n19 hs) (by omega) (by omega) (rfl) ?_
        refine n_iconst dX12_write_27 (by decide) (fun r27 e27_z => ?_)
        refine n_isub dX12_write_28 (by omega) (fun r28 e28_z => ?_)
        refine n_i2l dX12_write_29 (fun r29 e29 => ?_)
        refine q_callS3 zm_RX12_138 dX12_write_30 (Nat.le_of_ble_eq_true rfl) (Nat.le_of_ble_eq_true rfl) (Nat.le_of_ble_eq_true rfl) (Nat.le_of_ble_eq_true rfl) (Nat.le_of_ble_eq_true rfl) (s_X12_within G  (fun r30 e30 => ?_))
        refine t_ifeq (t := 46) dX12_write_33 (by decide) (fun h33 => ?_) (fun h33 => False.elim (by omega))
        refine r_aloadR0 dX12_write_46 ?_
        refine n_iconst dX12_write_47 (by decide) (fun r47 e47 => ?_)
        refine q_callV1 zm_RX12_244 dX12_write_48 (shM_k hs) (by decide) rfl (Nat.le_of_ble_eq_true rfl) (Nat.le_of_ble_eq_true rfl) (Nat.le_of_ble_eq_true rfl) (Nat.le_of_ble_eq_true rfl) (Nat.le_of_ble_eq_true rfl) (s_X12_fails G hs (fun r48 g48 e48 o48 v48 => ?_))
        refine n_i2l dX12_write_51 (fun r51 e51 => ?_)
        refine r_lret dX12_write_52 rfl (Nat.le_of_ble_eq_true rfl) (Nat.le_of_ble_eq_true rfl) ?_
        exact hT3 hok s l hcs hpc _ g48 (frM_tr og6 (frM_su o48 (by decide) (by decide))) (by rw [v48]; omega)
  · refine r_aloadR0 dX12_write_0 ?_
    refine r_aloadR0 dX12_write_1 ?_
    refine r_iload1 dX12_write_2 ?_
    refine q_callV1 zm_RX12_389 dX12_write_3 (shM_k hs) (by decide) rfl (Nat.le_of_ble_eq_true rfl) (Nat.le_of_ble_eq_true rfl) (Nat.le_of_ble_eq_true rfl) (Nat.le_of_ble_eq_true rfl) (Nat.le_of_ble_eq_true rfl) (s_X12_trayFault G hs (fun r3 e3_z => ?_))
    rw [if_neg (by omega)] at e3_z
    refine m_putI zf_RX12_77 (by intro C T N h_z; cases h_z; rfl) rfl dX12_write_6 (shM_k hs) ?_
    obtain ⟨g6, hg6⟩ : ∃ g9, g9 = zu f A 4 r3 := ⟨_, rfl⟩
    rw [← hg6]
    have og6 : frM A [] [4] f g6 := by rw [hg6]; exact frM_zk frM_rf (by decide)
    have vg6 : g6 A 4 = r3 := by rw [hg6]; exact zu_at
    have vt6 : (g6 A 4).toInt = r3.toInt := by rw [vg6]
    refine r_aloadR0 dX12_write_9 ?_
    refine m_getV (x := (g6 A 4)) zf_RX12_77 rfl dX12_write_10 (shM_k hs) (rfl) ?_
    refine t_ifle (t := 18) dX12_write_13 (by decide) (fun h13 => False.elim (by omega)) (fun h13 => ?_)
    refine n_lconst (q := 0) dX12_write_16 rfl (by decide) (fun r16 e16_z => ?_)
    refine r_lret dX12_write_17 rfl (Nat.le_of_ble_eq_true rfl) (Nat.le_of_ble_eq_true rfl) ?_
    exact hT1 hok _ g6 og6 (by omega)
set_option maxHeartbeats 4000000 in
set_option maxRecDepth 100000 in
theorem s_X12_copy {g : zGT} {w : zW} {f : Nat → Nat → Int32} {j : Nat → Nat → Int64} {A : Nat} {T : zTb} {x : Int32} {ty : Nat → zTy} {Q : Option Value → zW → Prop} {QX : String → zW → Prop} (G : zGok g) (hs : shM w A) (hk : ctKn (f (A + 1)) T) (hw : wfT T) (hty : ∀ t, t < 4 → ctTm f j A t (ty t)) (hT1 : ¬ (0 ≤ x.toInt ∧ x.toInt < 4) → ∀ (r : Int32) f2_z, frM A [] [4] f f2_z → (f2_z A 4).toInt = 1 → Q (some (.int r)) (zM w f2_z j)) (hT2 : (0 ≤ x.toInt ∧ x.toInt < 4) → ty x.toInt.toNat = none → ∀ (r : Int32) f2_z, frM A [] [4] f f2_z → (f2_z A 4).toInt = 2 → Q (some (.int r)) (zM w f2_z j)) (hQ : (0 ≤ x.toInt ∧ x.toInt < 4) → ∀ s l, ty x.toInt.toNat = some (s, l) → ∀ (r : Int32) f2_z j2, r.toInt = ((min l.length (tbL T).length : Nat) : Int) → frM A [6] [4] f f2_z → (f2_z A 4).toInt = 0 → (∀ q, q ≠ A + 20 → j2 q = j q) → ctTm f2_z j2 A x.toInt.toNat (some (s, copW s (fun i => ((seenA T.2.2.1.1 (tbL T) i : Nat) : Int)) (min l.length (tbL T).length) l)) → (∀ t2 ty2, t2 < 4 → t2 ≠ x.toInt.toNat → ctTm f j A t2 ty2 → ctTm f2_z j2 A t2 ty2) → Q (some (.int r)) (zM w f2_z j2)) : zC g 6 yX12_copy cX12_copy 5 (some .int) [.ref A, .int x] (zM w f j) (0, 0) Q QX := by
  refine zC_of G (by decide +kernel) (Nat.le_of_ble_eq_true rfl) ?_
  have hk9 := hk
  obtain ⟨⟨k0_z, k1_z, k2_z, k3_z, k4_z, k5_z, k6_z⟩, km, kg, kp, kl1, kl2, kl3⟩ := hk9
  have km9 := km
  obtain ⟨m1_z, m2_z, m3_z⟩ := km9
  have hn6 : tbC T ≤ 6 := hw.2.1
  have hg4 : tbG T ≤ 4 := hw.2.2.1
  have hwm := hw.2.2.2.2.2.2.2.1
  have hml : T.2.2.1.2.length ≤ 5 := hwm.2.1
  have hm99 := hwm.2.2
  have hrt := wfT_rch hw
  have hLl : (tbL T).length ≤ 6 := Nat.le_trans (rch_cell hrt).2.2.2.2 hn6
  have hpl : T.2.2.2.length ≤ 10 := hw.2.2.2.2.2.2.2.2.1
  rcases Classical.em (0 ≤ x.toInt ∧ x.toInt < 4) with hok | hok
  · have hct := hty _ (show x.toInt.toNat < 4 by omega)
    cases hcs : ty x.toInt.toNat with
    | none =>
      rw [hcs] at hct
      have hno : (f (A + 18) x.toInt.toNat).toInt = -1 := hct
      refine r_aloadR0 dX12_copy_0 ?_
      refine r_aloadR0 dX12_copy_1 ?_
      refine r_iload1 dX12_copy_2 ?_
      refine q_callV1 zm_RX12_389 dX12_copy_3 (shM_k hs) (by decide) rfl (Nat.le_of_ble_eq_true rfl) (Nat.le_of_ble_eq_true rfl) (Nat.le_of_ble_eq_true rfl) (Nat.le_of_ble_eq_true rfl) (Nat.le_of_ble_eq_true rfl) (s_X12_trayFault G hs (fun r3 e3_z => ?_))
      rw [if_pos (by omega), if_pos hno] at e3_z
      refine m_putI zf_RX12_77 (by intro C T N h_z; cases h_z; rfl) rfl dX12_copy_6 (shM_k hs) ?_
      obtain ⟨g6, hg6⟩ : ∃ g9, g9 = zu f A 4 r3 := ⟨_, rfl⟩
      rw [← hg6]
      have og6 : frM A [] [4] f g6 := by rw [hg6]; exact frM_zk frM_rf (by decide)
      have vg6 : g6 A 4 = r3 := by rw [hg6]; exact zu_at
      have vt6 : (g6 A 4).toInt = r3.toInt := by rw [vg6]
      have hk6 : ctKn (g6 (A + 1)) T := by rw [og6.2.1 1 (by decide) (by decide) (by decide)]; exact hk
      refine r_aloadR0 dX12_copy_9 ?_
      refine m_getV (x := (g6 A 4)) zf_RX12_77 rfl dX12_copy_10 (shM_k hs) (rfl) ?_
      refine t_ifle (t := 18) dX12_copy_13 (by decide) (fun h13 => False.elim (by omega)) (fun h13 => ?_)
      refine n_iconst dX12_copy_16 (by decide) (fun r16 e16_z => ?_)
      refine r_iret dX12_copy_17 rfl (Nat.le_of_ble_eq_true rfl) (Nat.le_of_ble_eq_true rfl) ?_
      exact hT2 hok hcs _ g6 og6 (by omega)
    | some q =>
      obtain ⟨s, l⟩ := q
      rw [hcs] at hct
      obtain ⟨t1, t2, t3, t4, t5⟩ := hct
      refine r_aloadR0 dX12_copy_0 ?_
      refine r_aloadR0 dX12_copy_1 ?_
      refine r_iload1 dX12_copy_2 ?_
      refine q_callV1 zm_RX12_389 dX12_copy_3 (shM_k hs) (by decide) rfl (Nat.le_of_ble_eq_true rfl) (Nat.le_of_ble_eq_true rfl) (Nat.le_of_ble_eq_true rfl) (Nat.le_of_ble_eq_true rfl) (Nat.le_of_ble_eq_true rfl) (s_X12_trayFault G hs (fun r3 e3_z => ?_))
      rw [if_pos (by omega), if_neg (by omega)] at e3_z
      refine m_putI zf_RX12_77 (by intro C T N h_z; cases h_z; rfl) rfl dX12_copy_6 (shM_k hs) ?_
      obtain ⟨g6, hg6⟩ : ∃ g9, g9 = zu f A 4 r3 := ⟨_, rfl⟩
      rw [← hg6]
      have og6 : frM A [] [4] f g6 := by rw [hg6]; exact frM_zk frM_rf (by decide)
      have vg6 : g6 A 4 = r3 := by rw [hg6]; exact zu_at
      have vt6 : (g6 A 4).toInt = r3.toInt := by rw [vg6]
      have hk6 : ctKn (g6 (A + 1)) T := by rw [og6.2.1 1 (by decide) (by decide) (by decide)]; exact hk
      refine r_aloadR0 dX12_copy_9 ?_
      refine m_getV (x := (g6 A 4)) zf_RX12_77 rfl dX12_copy_10 (shM_k hs) (rfl) ?_
      refine t_ifle (t := 18) dX12_copy_13 (by decide) (fun h13 => ?_) (fun h13 => False.elim (by omega))
      refine r_aloadR0 dX12_copy_18 ?_
      refine q_callV0 zm_RX12_343 dX12_copy_19 (shM_k hs) (by decide) rfl (Nat.le_of_ble_eq_true rfl) (Nat.le_of_ble_eq_true rfl) (Nat.le_of_ble_eq_true rfl) (Nat.le_of_ble_eq_true rfl) (Nat.le_of_ble_eq_true rfl) (s_X12_now G hs hk6 hw (fun r19 g19 e19_z o19 c19 => ?_))
      refine r_istore2 dX12_copy_22 rfl ?_
      refine r_aloadR0 dX12_copy_23 ?_
      refine m_getR (q := (A + 19)) zf_RX12_71 rfl dX12_copy_24 (shM_k hs) (shM_p19 hs) ?_
      refine r_iload1 dX12_copy_27 ?_
      have h19 : (g19 (A + 19) x.toInt.toNat).toInt = (l.length : Nat) := by rw [o19.2.1 19 (by decide) (by decide) (by decide), og6.2.1 19 (by decide) (by decide) (by decide)]; exact t3
      refine m_iald (k := x.toInt.toNat) (x := (g19 (A + 19) x.toInt.toNat)) dX12_copy_28 (shM_k19 hs) (shM_n19 hs) (by omega) (by omega) (rfl) ?_
      refine r_aloadR0 dX12_copy_29 ?_
      refine r_iload2 dX12_copy_30 ?_
      refine q_callV1 zm_RX12_256 dX12_copy_31 (shM_k hs) (by decide) rfl (Nat.le_of_ble_eq_true rfl) (Nat.le_of_ble_eq_true rfl) (Nat.le_of_ble_eq_true rfl) (Nat.le_of_ble_eq_true rfl) (Nat.le_of_ble_eq_true rfl) (s_X12_columnsAt (v := (tbL T).length) G hs e19_z (by omega) c19.1 (fun r31 e31_z => ?_))
      have hk19 : ctKn (g19 (A + 1)) T := by rw [o19.2.1 1 (by decide) (by decide) (by decide)]; exact hk6
      have ofr : frM A [6] [4] f g19 := frM_tr (frM_su og6 (by decide) (by decide)) (frM_su o19 (by decide) (by decide))
      have hg19 : ∀ t2 ty2, ctTm f j A t2 ty2 → ctTm g19 j A t2 ty2 := fun t2 ty2 h9 => ctTm_of h9 (by rw [ofr.2.1 18 (by decide) (by decide) (by decide)]) (by rw [ofr.2.1 19 (by decide) (by decide) (by decide)]) (fun _ _ => rfl)
      have h19 : (g19 (A + 19) x.toInt.toNat).toInt = (l.length : Nat) := by rw [ofr.2.1 19 (by decide) (by decide) (by decide)]; exact t3
      refine r_mmin zm_RX12_299 dX12_copy_34 (Nat.le_of_ble_eq_true rfl) (Nat.le_of_ble_eq_true rfl) (Nat.le_of_ble_eq_true rfl) (Nat.le_of_ble_eq_true rfl) (Nat.le_of_ble_eq_true rfl) (fun r34 e34 => ?_)
      have hmin : r34.toInt = ((min l.length (tbL T).length : Nat) : Int) := by omega
      obtain ⟨mm, hmm⟩ : ∃ mm, mm = min l.length (tbL T).length := ⟨_, rfl⟩
      rw [← hmm] at hmin
      have lp : ∀ (mz : Nat) (c : Int32) (k : Nat) (j2 : Nat → Nat → Int64) (l2 : List Int), c.toInt = (k : Nat) → k ≤ mm → (∀ q, q ≠ A + 20 → j2 q = j q) → ctTm g19 j2 A x.toInt.toNat (some (s, l2)) → l2.length = l.length → l2 = copW s (fun i => ((seenA T.2.2.1.1 (tbL T) i : Nat) : Int)) k l → (∀ t2 ty2, t2 < 4 → t2 ≠ x.toInt.toNat → ctTm f j A t2 ty2 → ctTm g19 j2 A t2 ty2) → mm - k < mz → zR (zV g 6 yX12_copy 5 (some .int) (0, 0) Q QX) cX12_copy yX12_copy.cls 41 [some (.ref A), some (.int x), some (.int r19), some (.int r34), some (.int c)] [] (zM w g19 j2) (0, 0) := by
        intro mz
        induction mz with
        | zero =>
          intro c k j2 l2 hck hk30 ho hct2 hl2 hcw hoth hmz
          exact absurd hmz (Nat.not_lt_zero _)
        | succ mz ih =>
          intro c k j2 l2 hck hk30 ho hct2 hl2 hcw hoth hmz
          rcases Nat.lt_or_ge k mm with hkl | hkl
          · refine r_iload4 dX12_copy_41 ?_
            refine r_iload3 dX12_copy_43 ?_
            refine t_icge (t := 69) dX12_copy_44 (by decide) (fun h44 => False.elim (by omega)) (fun h44 => ?_)
            refine r_aloadR0 dX12_copy_47 ?_
            refine r_iload1 dX12_copy_48 ?_
            refine r_iload4 dX12_copy_49 ?_
            refine r_aloadR0 dX12_copy_51 ?_
            refine r_iload2 dX12_copy_52 ?_
            refine r_iload4 dX12_copy_53 ?_
            refine q_callV2 zm_RX12_287 dX12_copy_55 (shM_k hs) (by decide) rfl (Nat.le_of_ble_eq_true rfl) (Nat.le_of_ble_eq_true rfl) (Nat.le_of_ble_eq_true rfl) (Nat.le_of_ble_eq_true rfl) (Nat.le_of_ble_eq_true rfl) (s_X12_aboveAt (w := w) (j := j2) (mk := T.2.2.1.1) (n := tbC T) (c := k) G hs (fun c hc_z => hk19.2.1.2.2 c hc_z) e19_z (by omega) c19 hrt hck (by omega) (fun r55 e55 => ?_))
            refine n_i2l dX12_copy_58 (fun r58 e58 => ?_)
            refine q_callV3 zm_RX12_564 dX12_copy_59 (shM_k hs) (by decide) rfl (Nat.le_of_ble_eq_true rfl) (Nat.le_of_ble_eq_true rfl) (Nat.le_of_ble_eq_true rfl) (Nat.le_of_ble_eq_true rfl) (Nat.le_of_ble_eq_true rfl) (s_X12_cut (j := j2) (t := x.toInt.toNat) (s := s) (k := k) (l := l2) G hs (by omega) (by omega) hck (by omega) hct2 (fun r59 j3 e59 a1 a2 a3 => ?_))
            rw [e58, e55] at a2
            refine r_pop2L dX12_copy_62 rfl ?_
            refine n_iinc4 dX12_copy_63 (by decide) rfl (by omega) (fun r63 e63 => ?_)
            refine r_goto (t := 41) dX12_copy_66 (by decide) ?_
            exact ih _ (k + 1) j3 _ (by omega) (by omega) (fun q hq => (a1 q hq).trans (ho q hq)) a2 (by rw [List.length_set]; exact hl2) (by rw [hcw]; rfl) (fun t2_ ty2 h2 h3 h4 => a3 t2_ ty2 h2 h3 (hoth t2_ ty2 h2 h3 h4)) (by omega)
          · refine r_iload4 dX12_copy_41 ?_
            refine r_iload3 dX12_copy_43 ?_
            refine t_icge (t := 69) dX12_copy_44 (by decide) (fun h44 => ?_) (fun h44 => False.elim (by omega))
            refine r_iload3 dX12_copy_69 ?_
            refine r_iret dX12_copy_70 rfl (Nat.le_of_ble_eq_true rfl) (Nat.le_of_ble_eq_true rfl) ?_
            have hkm : k = mm := by omega
            rw [hkm] at hcw
            rw [hcw, hmm] at hct2
            exact hQ hok s l hcs _ g19 j2 (by rw [← hmm]; exact hmin) ofr (by rw [o19.2.2 4 (by decide)]; omega) ho hct2 hoth
      refine r_istore3 dX12_copy_37 rfl ?_
      refine n_iconst dX12_copy_38 (by decide) (fun r38 e38 => ?_)
      refine r_istore4 dX12_copy_39 rfl ?_
      exact lp 31 _ 0 j l (by omega) (by omega) (fun q hq => rfl) (hg19 _ _ ⟨t1, t2, t3, t4, t5⟩) rfl rfl (fun t2_ ty2 h2 h3 h4 => hg19 _ _ h4) (by omega)
  · refine r_aloadR0 dX12_copy_0 ?_
    refine r_aloadR0 dX12_copy_1 ?_
    refine r_iload1 dX12_copy_2 ?_
    refine q_callV1 zm_RX12_389 dX12_copy_3 (shM_k hs) (by decide) rfl (Nat.le_of_ble_eq_true rfl) (Nat.le_of_ble_eq_true rfl) (Nat.le_of_ble_eq_true rfl) (Nat.le_of_ble_eq_true rfl) (Nat.le_of_ble_eq_true rfl) (s_X12_trayFault G hs (fun r3 e3_z => ?_))
    rw [if_neg (by omega)] at e3_z
    refine m_putI zf_RX12_77 (by intro C T N h_z; cases h_z; rfl) rfl dX12_copy_6 (shM_k hs) ?_
    obtain ⟨g6, hg6⟩ : ∃ g9, g9 = zu f A 4 r3 := ⟨_, rfl⟩
    rw [← hg6]
    have og6 : frM A [] [4] f g6 := by rw [hg6]; exact frM_zk frM_rf (by decide)
    have vg6 : g6 A 4 = r3 := by rw [hg6]; exact zu_at
    have vt6 : (g6 A 4).toInt = r3.toInt := by rw [vg6]
    have hk6 : ctKn (g6 (A + 1)) T := by rw [og6.2.1 1 (by decide) (by decide) (by decide)]; exact hk
    refine r_aloadR0 dX12_copy_9 ?_
    refine m_getV (x := (g6 A 4)) zf_RX12_77 rfl dX12_copy_10 (shM_k hs) (rfl) ?_
    refine t_ifle (t := 18) dX12_copy_13 (by decide) (fun h13 => False.elim (by omega)) (fun h13 => ?_)
    refine n_iconst dX12_copy_16 (by decide) (fun r16 e16_z => ?_)
    refine r_iret dX12_copy_17 rfl (Nat.le_of_ble_eq_true rfl) (Nat.le_of_ble_eq_true rfl) ?_
    exact hT1 hok _ g6 og6 (by omega)
