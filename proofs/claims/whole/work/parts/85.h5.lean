/-! the reference: answers beside trays -/
theorem invM_0 {A : Nat} {ty : Nat → zTy} {p : zLy → Bool} {f f1_z : Nat → Nat → Int32} {j : Nat → Nat → Int64} (of : frM A [] [28, 29, 30, 31, 32, 37] f f1_z) (h28 : (f1_z A 28).toInt = 11) (h30 : (f1_z A 30).toInt = 0) (h32 : (f1_z A 32).toInt = 0) (hty : ∀ t, t < 4 → ctTm f j A t (ty t)) : invM A (f A 33).toInt ty p f1_z j [] := ⟨h28, by rw [of.2.2 33 (by decide)], by rw [h30]; rfl, tys_of hty of (by decide) (by decide) (fun _ _ => rfl), fun _ => h32, fun z hz => absurd hz (by simp)⟩
theorem invS_0 {A n : Nat} {M : Nat → Nat} {ty : Nat → zTy} {p : zLy → Bool} {f f1_z : Nat → Nat → Int32} {j : Nat → Nat → Int64} (of : frM A [] [28, 29, 30, 31, 32, 37] f f1_z) (h28 : (f1_z A 28).toInt = 13) (h30 : (f1_z A 30).toInt = 0) (hty : ∀ t, t < 4 → ctTm f j A t (ty t)) (hz : ∀ i, i < 600 → (f (A + 17) i).toInt = 0) : invS A n M (f A 33).toInt ty p (f A 34) f1_z j [] := ⟨h28, by rw [of.2.2 33 (by decide)], by rw [h30]; rfl, tys_of hty of (by decide) (by decide) (fun _ _ => rfl), by rw [of.2.2 34 (by decide)]; rfl, fun k v h1 h2 => by rw [of.2.1 17 (by decide) (by decide) (by decide), hz _ (by omega)]; rfl⟩
set_option maxHeartbeats 4000000 in
set_option maxRecDepth 100000 in
theorem s_X12_made {g : zGT} {w : zW} {f : Nat → Nat → Int32} {j : Nat → Nat → Int64} {A : Nat} {T : zTb} {x : Int32} {ty : Nat → zTy} {Q : Option Value → zW → Prop} {QX : String → zW → Prop} (G : zGok g) (hs : shM w A) (hk : ctKn (f (A + 1)) T) (hw : wfT T) (hmb : mbI f A) (htn : (f A 37).toInt < 1900000000) (hty : ∀ t, t < 4 → ctTm f j A t (ty t)) (hT1 : ¬ (0 ≤ x.toInt ∧ x.toInt < 4) → ∀ (r : Int32) f2_z j2, qM A f f2_z j j2 0 → (f2_z A 4).toInt = 1 → Q (some (.int r)) (zM w f2_z j2)) (hT2 : (0 ≤ x.toInt ∧ x.toInt < 4) → ty x.toInt.toNat = none → ∀ (r : Int32) f2_z j2, qM A f f2_z j j2 0 → (f2_z A 4).toInt = 2 → Q (some (.int r)) (zM w f2_z j2)) (hT3 : (0 ≤ x.toInt ∧ x.toInt < 4) → ∀ s l, ty x.toInt.toNat = some (s, l) → ¬ (l.length = tbC T - 1 ∧ ∀ v ∈ l, 0 ≤ v ∧ v ≤ 2) → ∀ (r : Int32) f2_z j2, qM A f f2_z j j2 0 → (f2_z A 4).toInt = 3 → Q (some (.int r)) (zM w f2_z j2)) (hQ : (0 ≤ x.toInt ∧ x.toInt < 4) → ∀ s l, ty x.toInt.toNat = some (s, l) → (l.length = tbC T - 1 ∧ ∀ v ∈ l, 0 ≤ v ∧ v ≤ 2) → ∀ (r : Int32) f2_z j2, r.toInt = ((allF 6 (lyFlat (tbC T))).countP (fun y => (fun L => @decide (creC L l) (Classical.propDecidable _)) y.1) : Nat) → qM A f f2_z j j2 1 → (f2_z A 4).toInt = 0 → Q (some (.int r)) (zM w f2_z j2)) : zC g 17 yX12_made cX12_made 2 (some .int) [.ref A, .int x] (zM w f j) (0, 0) Q QX := by
  refine zC_of G (by decide +kernel) (Nat.le_of_ble_eq_true rfl) ?_
  have hk9 := hk
  obtain ⟨⟨k0_z, k1_z, k2_z, k3_z, k4_z, k5_z, k6_z⟩, km, kg, kp, kl1, kl2, kl3⟩ := hk9
  have km9 := km
  obtain ⟨m1_z, m2_z, m3_z⟩ := km9
  have hn6 : tbC T ≤ 6 := hw.2.1
  have hg4 : tbG T ≤ 4 := hw.2.2.1
  have hwm := hw.2.2.2.2.2.2.2.1
  have hml : T.2.2.1.2.length ≤ 5 := hwm.2.1
  have hm99 := hwm.2.2
  have hrt := wfT_rch hw
  have hLl : (tbL T).length ≤ 6 := Nat.le_trans (rch_cell hrt).2.2.2.2 hn6
  have hpl : T.2.2.2.length ≤ 10 := hw.2.2.2.2.2.2.2.2.1
  refine r_aloadR0 dX12_made_0 ?_
  refine r_aloadR0 dX12_made_1 ?_
  refine r_iload1 dX12_made_2 ?_
  refine q_callV1 zm_RX12_549 dX12_made_3 (shM_k hs) (by decide) rfl (Nat.le_of_ble_eq_true rfl) (Nat.le_of_ble_eq_true rfl) (Nat.le_of_ble_eq_true rfl) (Nat.le_of_ble_eq_true rfl) (Nat.le_of_ble_eq_true rfl) (s_X12_creasesFault G hs hk hw hty (fun r3 e3_z => ?_))
  rcases e3_z with ⟨q1_z, q2_z⟩ | ⟨q1_z, q2_z, q3_z⟩ | ⟨q1_z, s, l, q2_z, ⟨q3_z, q4_z⟩ | ⟨q3_z, q4_z⟩⟩
  · refine m_putI zf_RX12_77 (by intro C T N h_z; cases h_z; rfl) rfl dX12_made_6 (shM_k hs) ?_
    obtain ⟨g6, hg6⟩ : ∃ g9, g9 = zu f A 4 r3 := ⟨_, rfl⟩
    rw [← hg6]
    have og6 : frM A [] [4] f g6 := by rw [hg6]; exact frM_zk frM_rf (by decide)
    have vg6 : g6 A 4 = r3 := by rw [hg6]; exact zu_at
    have vt6 : (g6 A 4).toInt = r3.toInt := by rw [vg6]
    have hk6 : ctKn (g6 (A + 1)) T := by rw [og6.2.1 1 (by decide) (by decide) (by decide)]; exact hk
    refine r_aloadR0 dX12_made_9 ?_
    refine m_getV (x := (g6 A 4)) zf_RX12_77 rfl dX12_made_10 (shM_k hs) (rfl) ?_
    refine t_ifle (t := 18) dX12_made_13 (by decide) (fun h13 => False.elim (by omega)) (fun h13 => ?_)
    refine n_iconst dX12_made_16 (by decide) (fun r16 e16_z => ?_)
    refine r_iret dX12_made_17 rfl (Nat.le_of_ble_eq_true rfl) (Nat.le_of_ble_eq_true rfl) ?_
    exact hT1 q1_z _ g6 j (qM_q (show frM A [6, 7, 8, 9, 13, 16, 17] [4, 33, 34] f _ from (frM_su og6 (by decide) (by decide)))) (by omega)
  · refine m_putI zf_RX12_77 (by intro C T N h_z; cases h_z; rfl) rfl dX12_made_6 (shM_k hs) ?_
    obtain ⟨g6, hg6⟩ : ∃ g9, g9 = zu f A 4 r3 := ⟨_, rfl⟩
    rw [← hg6]
    have og6 : frM A [] [4] f g6 := by rw [hg6]; exact frM_zk frM_rf (by decide)
    have vg6 : g6 A 4 = r3 := by rw [hg6]; exact zu_at
    have vt6 : (g6 A 4).toInt = r3.toInt := by rw [vg6]
    have hk6 : ctKn (g6 (A + 1)) T := by rw [og6.2.1 1 (by decide) (by decide) (by decide)]; exact hk
    refine r_aloadR0 dX12_made_9 ?_
    refine m_getV (x := (g6 A 4)) zf_RX12_77 rfl dX12_made_10 (shM_k hs) (rfl) ?_
    refine t_ifle (t := 18) dX12_made_13 (by decide) (fun h13 => False.elim (by omega)) (fun h13 => ?_)
    refine n_iconst dX12_made_16 (by decide) (fun r16 e16_z => ?_)
    refine r_iret dX12_made_17 rfl (Nat.le_of_ble_eq_true rfl) (Nat.le_of_ble_eq_true rfl) ?_
    exact hT2 q1_z q2_z _ g6 j (qM_q (show frM A [6, 7, 8, 9, 13, 16, 17] [4, 33, 34] f _ from (frM_su og6 (by decide) (by decide)))) (by omega)
  · refine m_putI zf_RX12_77 (by intro C T N h_z; cases h_z; rfl) rfl dX12_made_6 (shM_k hs) ?_
    obtain ⟨g6, hg6⟩ : ∃ g9, g9 = zu f A 4 r3 := ⟨_, rfl⟩
    rw [← hg6]
    have og6 : frM A [] [4] f g6 := by rw [hg6]; exact frM_zk frM_rf (by decide)
    have vg6 : g6 A 4 = r3 := by rw [hg6]; exact zu_at
    have vt6 : (g6 A 4).toInt = r3.toInt := by rw [vg6]
    have hk6 : ctKn (g6 (A + 1)) T := by rw [og6.2.1 1 (by decide) (by decide) (by decide)]; exact hk
    refine r_aloadR0 dX12_made_9 ?_
    refine m_getV (x := (g6 A 4)) zf_RX12_77 rfl dX12_made_10 (shM_k hs) (rfl) ?_
    refine t_ifle (t := 18) dX12_made_13 (by decide) (fun h13 => ?_) (fun h13 => False.elim (by omega))
    refine r_aloadR0 dX12_made_18 ?_
    refine r_iload1 dX12_made_19 ?_
    refine m_putI zf_RX12_449 (by intro C T N h_z; cases h_z; rfl) rfl dX12_made_20 (shM_k hs) ?_
    obtain ⟨g20, hg20⟩ : ∃ g9, g9 = zu g6 A 33 x := ⟨_, rfl⟩
    rw [← hg20]
    have og20 : frM A [] [33] g6 g20 := by rw [hg20]; exact frM_zk frM_rf (by decide)
    have vg20 : g20 A 33 = x := by rw [hg20]; exact zu_at
    have vt20 : (g20 A 33).toInt = x.toInt := by rw [vg20]
    have hk20 : ctKn (g20 (A + 1)) T := by rw [og20.2.1 1 (by decide) (by decide) (by decide)]; exact hk6
    refine r_aloadR0 dX12_made_23 ?_
    refine q_callV0 zm_RX12_277 dX12_made_24 (shM_k hs) (by decide) rfl (Nat.le_of_ble_eq_true rfl) (Nat.le_of_ble_eq_true rfl) (Nat.le_of_ble_eq_true rfl) (Nat.le_of_ble_eq_true rfl) (Nat.le_of_ble_eq_true rfl) (s_X12_laysFlat G hs hk20.1.2.1 hn6 (fun g24 o24 c24 => ?_))
    refine r_aloadR0 dX12_made_27 ?_
    refine n_bipush dX12_made_28 (by decide) (fun r28 e28_z => ?_)
    refine n_iconst dX12_made_30 (by decide) (fun r30 e30 => ?_)
    refine n_iconst dX12_made_31 (by decide) (fun r31 e31_z => ?_)
    have ofA := (show frM A [6, 7, 8, 9, 13, 16, 17] [4, 33, 34] f _ from (frM_tr (frM_tr (frM_su og6 (by decide) (by decide)) (frM_su og20 (by decide) (by decide))) (frM_su o24 (by decide) (by decide))))
    have hkA : ctKn (g24 (A + 1)) T := by rw [ofA.2.1 1 (by decide) (by decide) (by decide)]; exact hk
    have thA : (g24 A 4).toInt = 0 := by rw [o24.2.2 4 (by decide), og20.2.2 4 (by decide)]; omega
    have mbA : mbI g24 A := by intro i hi_z; rw [ofA.2.1 15 (by decide) (by decide) (by decide), ofA.2.2 37 (by decide)]; exact hmb i hi_z
    refine q_callV3 zm_RX12_502 dX12_made_32 (shM_k hs) (by decide) rfl (Nat.le_of_ble_eq_true rfl) (Nat.le_of_ble_eq_true rfl) (Nat.le_of_ble_eq_true rfl) (Nat.le_of_ble_eq_true rfl) (Nat.le_of_ble_eq_true rfl) (s_X12_asksAll (T := T) (dd := 0) (mm := 5) (L := (lyFlat (tbC T))) (wh := 11) (Inv := (invM A (g24 A 33).toInt ty (fun L => @decide (creC L l) (Classical.propDecidable _)))) (Fin := (fun _ _ _ _ => False)) G hs hw (by omega) hkA e28_z (by omega) e31_z (by omega) c24 (rch_flat hn6) (by rw [ofA.2.2 37 (by decide)]; omega) (see_mad (tn := x.toInt.toNat) (s := s) (l := l) G hs hw (by omega) (by rw [o24.2.2 33 (by decide), vg20]; omega) (by omega) q2_z q4_z.1) invM_iv (fun f1_z of h28 h30 h31 h32 h37 => invM_0 of h28 h30 h32 (tys_of hty ofA (by decide) (by decide) (fun _ _ => rfl))) (fun g32 j32 o32 t32 c32 => ?_))
    have oq : qM A f g32 j j32 1 := qM_ga ofA o32 t32
    have oth : (g32 A 4).toInt = 0 := by rw [o32.1.2.2 4 (by decide)]; exact thA
    refine r_aloadR0 dX12_made_35 ?_
    refine m_getV (x := (g32 A 30)) zf_RX12_452 rfl dX12_made_36 (shM_k hs) (rfl) ?_
    refine r_iret dX12_made_39 rfl (Nat.le_of_ble_eq_true rfl) (Nat.le_of_ble_eq_true rfl) ?_
    rcases c32 with ⟨_, _, _, _, h9⟩ | h9
    · exact absurd h9 id
    · exact hQ q1_z s l q2_z q4_z _ g32 j32 h9.2.2.1 oq oth
  · refine m_putI zf_RX12_77 (by intro C T N h_z; cases h_z; rfl) rfl dX12_made_6 (shM_k hs) ?_
    obtain ⟨g6, hg6⟩ : ∃ g9, g9 = zu f A 4 r3 := ⟨_, rfl⟩
    rw [← hg6]
    have og6 : frM A [] [4] f g6 := by rw [hg6]; exact frM_zk frM_rf (by decide)
    have vg6 : g6 A 4 = r3 := by rw [hg6]; exact zu_at
    have vt6 : (g6 A 4).toInt = r3.toInt := by rw [vg6]
    have hk6 : ctKn (g6 (A + 1)) T := by rw [og6.2.1 1 (by decide) (by decide) (by decide)]; exact hk
    refine r_aloadR0 dX12_made_9 ?_
    refine m_getV (x := (g6 A 4)) zf_RX12_77 rfl dX12_made_10 (shM_k hs) (rfl) ?_
    refine t_ifle (t := 18) dX12_made_13 (by decide) (fun h13 => False.elim (by omega)) (fun h13 => ?_)
    refine n_iconst dX12_made_16 (by decide) (fun r16 e16_z => ?_)
    refine r_iret dX12_made_17 rfl (Nat.le_of_ble_eq_true rfl) (Nat.le_of_ble_eq_true rfl) ?_
    exact hT3 q1_z s l q2_z q4_z _ g6 j (qM_q (show frM A [6, 7, 8, 9, 13, 16, 17] [4, 33, 34] f _ from (frM_su og6 (by decide) (by decide)))) (by omega)
def fdR (o : Option zRo) (z : Int) : Int := match o with
  | some y => (moFold y.2 z).toInt
  | none => -1
set_option maxHeartbeats 4000000 in
set_option maxRecDepth 100000 in
theorem s_X12_madeBy {g : zGT} {w : zW} {f : Nat → Nat → Int32} {j : Nat → Nat → Int64} {A : Nat} {T : zTb} {x y : Int32} {ty : Nat → zTy} {Q : Option Value → zW → Prop} {QX : String → zW → Prop} (G : zGok g) (hs : shM w A) (hk : ctKn (f (A + 1)) T) (hw : wfT T) (hmb : mbI f A) (htn : (f A 37).toInt < 1900000000) (hty : ∀ t, t < 4 → ctTm f j A t (ty t)) (hT1 : ¬ (0 ≤ x.toInt ∧ x.toInt < 4) → ∀ (r : Int32) f2_z j2, qM A f f2_z j j2 0 → (f2_z A 4).toInt = 1 → Q (some (.int r)) (zM w f2_z j2)) (hT2 : (0 ≤ x.toInt ∧ x.toInt < 4) → ty x.toInt.toNat = none → ∀ (r : Int32) f2_z j2, qM A f f2_z j j2 0 → (f2_z A 4).toInt = 2 → Q (some (.int r)) (zM w f2_z j2)) (hT3 : (0 ≤ x.toInt ∧ x.toInt < 4) → ∀ s l, ty x.toInt.toNat = some (s, l) → ¬ ((l.length = tbC T - 1 ∧ ∀ v ∈ l, 0 ≤ v ∧ v ≤ 2) ∧ 0 ≤ y.toInt) → ∀ (r : Int32) f2_z j2, qM A f f2_z j j2 0 → (f2_z A 4).toInt = 3 → Q (some (.int r)) (zM w f2_z j2)) (hQ : (0 ≤ x.toInt ∧ x.toInt < 4) → ∀ s l, ty x.toInt.toNat = some (s, l) → ((l.length = tbC T - 1 ∧ ∀ v ∈ l, 0 ≤ v ∧ v ≤ 2) ∧ 0 ≤ y.toInt) → ∀ (r : Int32) f2_z j2, r.toInt = fdR ((allF 6 (lyFlat (tbC T))).find? (fun y => (fun L => @decide (creC L l) (Classical.propDecidable _)) y.1)) y.toInt → qM A f f2_z j j2 1 → (f2_z A 4).toInt = 0 → Q (some (.int r)) (zM w f2_z j2)) : zC g 17 yX12_madeBy cX12_madeBy 3 (some .int) [.ref A, .int x, .int y] (zM w f j) (0, 0) Q QX := by
  refine zC_of G (by decide +kernel) (Nat.le_of_ble_eq_true rfl) ?_
  have hk9 := hk
  obtain ⟨⟨k0_z, k1_z, k2_z, k3_z, k4_z, k5_z, k6_z⟩, km, kg, kp, kl1, kl2, kl3⟩ := hk9
  have km9 := km
  obtain ⟨m1_z, m2_z, m3_z⟩ := km9
  have hn6 : tbC T ≤ 6 := hw.2.1
  have hg4 : tbG T ≤ 4 := hw.2.2.1
  have hwm := hw.2.2.2.2.2.2.2.1
  have hml : T.2.2.1.2.length ≤ 5 := hwm.2.1
  have hm99 := hwm.2.2
  have hrt := wfT_rch hw
  have hLl : (tbL T).length ≤ 6 := Nat.le_trans (rch_cell hrt).2.2.2.2 hn6
  have hpl : T.2.2.2.length ≤ 10 := hw.2.2.2.2.2.2.2.2.1
  refine r_aloadR0 dX12_madeBy_0 ?_
  refine r_aloadR0 dX12_madeBy_1 ?_
  refine r_iload1 dX12_madeBy_2 ?_
  refine q_callV1 zm_RX12_549 dX12_madeBy_3 (shM_k hs) (by decide) rfl (Nat.le_of_ble_eq_true rfl) (Nat.le_of_ble_eq_true rfl) (Nat.le_of_ble_eq_true rfl) (Nat.le_of_ble_eq_true rfl) (Nat.le_of_ble_eq_true rfl) (s_X12_creasesFault G hs hk hw hty (fun r3 e3_z => ?_))
  rcases e3_z with ⟨q1_z, q2_z⟩ | ⟨q1_z, q2_z, q3_z⟩ | ⟨q1_z, s, l, q2_z, ⟨q3_z, q4_z⟩ | ⟨q3_z, q4_z⟩⟩
  · refine m_putI zf_RX12_77 (by intro C T N h_z; cases h_z; rfl) rfl dX12_madeBy_6 (shM_k hs) ?_
    obtain ⟨g6, hg6⟩ : ∃ g9, g9 = zu f A 4 r3 := ⟨_, rfl⟩
    rw [← hg6]
    have og6 : frM A [] [4] f g6 := by rw [hg6]; exact frM_zk frM_rf (by decide)
    have vg6 : g6 A 4 = r3 := by rw [hg6]; exact zu_at
    have vt6 : (g6 A 4).toInt = r3.toInt := by rw [vg6]
    have hk6 : ctKn (g6 (A + 1)) T := by rw [og6.2.1 1 (by decide) (by decide) (by decide)]; exact hk
    refine r_aloadR0 dX12_madeBy_9 ?_
    refine m_getV (x := (g6 A 4)) zf_RX12_77 rfl dX12_madeBy_10 (shM_k hs) (rfl) ?_
    refine t_ifne (t := 25) dX12_madeBy_13 (by decide) (fun h13 => ?_) (fun h13 => False.elim (by omega))
    refine r_aloadR0 dX12_madeBy_25 ?_
    refine m_getV (x := (g6 A 4)) zf_RX12_77 rfl dX12_madeBy_26 (shM_k hs) (rfl) ?_
    refine t_ifle (t := 34) dX12_madeBy_29 (by decide) (fun h29 => False.elim (by omega)) (fun h29 => ?_)
    refine n_iconst dX12_madeBy_32 (by decide) (fun r32 e32 => ?_)
    refine r_iret dX12_madeBy_33 rfl (Nat.le_of_ble_eq_true rfl) (Nat.le_of_ble_eq_true rfl) ?_
    exact hT1 q1_z _ g6 j (qM_q (show frM A [6, 7, 8, 9, 13, 16, 17] [4, 33, 34] f _ from (frM_su og6 (by decide) (by decide)))) (by omega)
  · refine m_putI zf_RX12_77 (by intro C T N h_z; cases h_z; rfl) rfl dX12_madeBy_6 (shM_k hs) ?_
    obtain ⟨g6, hg6⟩ : ∃ g9, g9 = zu f A 4 r3 := ⟨_, rfl⟩
    rw [← hg6]
    have og6 : frM A [] [4] f g6 := by rw [hg6]; exact frM_zk frM_rf (by decide)
    have vg6 : g6 A 4 = r3 := by rw [hg6]; exact zu_at
    have vt6 : (g6 A 4).toInt = r3.toInt := by rw [vg6]
    have hk6 : ctKn (g6 (A + 1)) T := by rw [og6.2.1 1 (by decide) (by decide) (by decide)]; exact hk
    refine r_aloadR0 dX12_madeBy_9 ?_
    refine m_getV (x := (g6 A 4)) zf_RX12_77 rfl dX12_madeBy_10 (shM_k hs) (rfl) ?_
    refine t_ifne (t := 25) dX12_madeBy_13 (by decide) (fun h13 => ?_) (fun h13 => False.elim (by omega))
    refine r_aloadR0 dX12_madeBy_25 ?_
    refine m_getV (x := (g6 A 4)) zf_RX12_77 rfl dX12_madeBy_26 (shM_k hs) (rfl) ?_
    refine t_ifle (t := 34) dX12_madeBy_29 (by decide) (fun h29 => False.elim (by omega)) (fun h29 => ?_)
    refine n_iconst dX12_madeBy_32 (by decide) (fun r32 e32 => ?_)
    refine r_iret dX12_madeBy_33 rfl (Nat.le_of_ble_eq_true rfl) (Nat.le_of_ble_eq_true rfl) ?_
    exact hT2 q1_z q2_z _ g6 j (qM_q (show frM A [6, 7, 8, 9, 13, 16, 17] [4, 33, 34] f _ from (frM_su og6 (by decide) (by decide)))) (by omega)
  · rcases Int.lt_or_le y.toInt 0 with hy | hy
    · refine m_putI zf_RX12_77 (by intro C T N h_z; cases h_z; rfl) rfl dX12_madeBy_6 (shM_k hs) ?_
      obtain ⟨g6, hg6⟩ : ∃ g9, g9 = zu f A 4 r3 := ⟨_, rfl⟩
      rw [← hg6]
      have og6 : frM A [] [4] f g6 := by rw [hg6]; exact frM_zk frM_rf (by decide)
      have vg6 : g6 A 4 = r3 := by rw [hg6]; exact zu_at
      have vt6 : (g6 A 4).toInt = r3.toInt := by rw [vg6]
      have hk6 : ctKn (g6 (A + 1)) T := by rw [og6.2.1 1 (by decide) (by decide) (by decide)]; exact hk
      refine r_aloadR0 dX12_madeBy_9 ?_
      refine m_getV (x := (g6 A 4)) zf_RX12_77 rfl dX12_madeBy_10 (shM_k hs) (rfl) ?_
      refine t_ifne (t := 25) dX12_madeBy_13 (by decide) (fun h13 => False.elim (by omega)) (fun h13 => ?_)
      refine r_iload2 dX12_madeBy_16 ?_
      refine t_ifge (t := 25) dX12_madeBy_17 (by decide) (fun h17 => False.elim (by omega)) (fun h17 => ?_)
      refine r_aloadR0 dX12_madeBy_20 ?_
      refine n_iconst dX12_madeBy_21 (by decide) (fun r21 e21_z => ?_)
      refine m_putI zf_RX12_77 (by intro C T N h_z; cases h_z; rfl) rfl dX12_madeBy_22 (shM_k hs) ?_
      obtain ⟨g22, hg22⟩ : ∃ g9, g9 = zu g6 A 4 r21 := ⟨_, rfl⟩
      rw [← hg22]
      have og22 : frM A [] [4] g6 g22 := by rw [hg22]; exact frM_zk frM_rf (by decide)
      have vg22 : g22 A 4 = r21 := by rw [hg22]; exact zu_at
      have vt22 : (g22 A 4).toInt = r21.toInt := by rw [vg22]
      have hk22 : ctKn (g22 (A + 1)) T := by rw [og22.2.1 1 (by decide) (by decide) (by decide)]; exact hk6
      refine r_aloadR0 dX12_madeBy_25 ?_
      refine m_getV (x := (g22 A 4)) zf_RX12_77 rfl dX12_madeBy_26 (shM_k hs) (rfl) ?_
      refine t_ifle (t := 34) dX12_madeBy_29 (by decide) (fun h29 => False.elim (by omega)) (fun h29 => ?_)
      refine n_iconst dX12_madeBy_32 (by decide) (fun r32 e32 => ?_)
      refine r_iret dX12_madeBy_33 rfl (Nat.le_of_ble_eq_true rfl) (Nat.le_of_ble_eq_true rfl) ?_
      exact hT3 q1_z s l q2_z (fun h9 => by have := h9.2; omega) _ g22 j (qM_q (show frM A [6, 7, 8, 9, 13, 16, 17] [4, 33, 34] f _ from (frM_tr (frM_su og6 (by decide) (by decide)) (frM_su og22 (by decide) (by decide))))) (by omega)
    · refine m_putI zf_RX12_77 (by intro C T N h_z; cases h_z; rfl) rfl dX12_madeBy_6 (shM_k hs) ?_
      obtain ⟨g6, hg6⟩ : ∃ g9, g9 = zu f A 4 r3 := ⟨_, rfl⟩
      rw [← hg6]
      have og6 : frM A [] [4] f g6 := by rw [hg6]; exact frM_zk frM_rf (by decide)
      have vg6 : g6 A 4 = r3 := by rw [hg6]; exact zu_at
      have vt6 : (g6 A 4).toInt = r3.toInt := by rw [vg6]
      have hk6 : ctKn (g6 (A + 1)) T := by rw [og6.2.1 1 (by decide) (by decide) (by decide)]; exact hk
      refine r_aloadR0 dX12_madeBy_9 ?_
      refine m_getV (x := (g6 A 4)) zf_RX12_77 rfl dX12_madeBy_10 (shM_k hs) (rfl) ?_
      refine t_ifne (t := 25) dX12_madeBy_13 (by decide) (fun h13 => False.elim (by omega)) (fun h13 => ?_)
      refine r_iload2 dX12_madeBy_16 ?_
      refine t_ifge (t := 25) dX12_madeBy_17 (by decide) (fun h17 => ?_) (fun h17 => False.elim (by omega))
      refine r_aloadR0 dX12_madeBy_25 ?_
      refine m_getV (x := (g6 A 4)) zf_RX12_77 rfl dX12_madeBy_26 (shM_k hs) (rfl) ?_
      refine t_ifle (t := 34) dX12_madeBy_29 (by decide) (fun h29 => ?_) (fun h29 => False.elim (by omega))
      refine r_aloadR0 dX12_madeBy_34 ?_
      refine r_iload1 dX12_madeBy_35 ?_
      refine m_putI zf_RX12_449 (by intro C T N h_z; cases h_z; rfl) rfl dX12_madeBy_36 (shM_k hs) ?_
      obtain ⟨g36, hg36⟩ : ∃ g9, g9 = zu g6 A 33 x := ⟨_, rfl⟩
      rw [← hg36]
      have og36 : frM A [] [33] g6 g36 := by rw [hg36]; exact frM_zk frM_rf (by decide)
      have vg36 : g36 A 33 = x := by rw [hg36]; exact zu_at
      have vt36 : (g36 A 33).toInt = x.toInt := by rw [vg36]
      have hk36 : ctKn (g36 (A + 1)) T := by rw [og36.2.1 1 (by decide) (by decide) (by decide)]; exact hk6
      refine r_aloadR0 dX12_madeBy_39 ?_
      refine q_callV0 zm_RX12_277 dX12_madeBy_40 (shM_k hs) (by decide) rfl (Nat.le_of_ble_eq_true rfl) (Nat.le_of_ble_eq_true rfl) (Nat.le_of_ble_eq_true rfl) (Nat.le_of_ble_eq_true rfl) (Nat.le_of_ble_eq_true rfl) (s_X12_laysFlat G hs hk36.1.2.1 hn6 (fun g40 o40 c40 => ?_))
      refine r_aloadR0 dX12_madeBy_43 ?_
      refine n_bipush dX12_madeBy_44 (by decide) (fun r44 e44 => ?_)
      refine n_iconst dX12_madeBy_46 (by decide) (fun r46 e46 => ?_)
      refine n_iconst dX12_madeBy_47 (by decide) (fun r47 e47 => ?_)
      have ofA := (show frM A [6, 7, 8, 9, 13, 16, 17] [4, 33, 34] f _ from (frM_tr (frM_tr (frM_su og6 (by decide) (by decide)) (frM_su og36 (by decide) (by decide))) (frM_su o40 (by decide) (by decide))))
      have hkA : ctKn (g40 (A + 1)) T := by rw [ofA.2.1 1 (by decide) (by decide) (by decide)]; exact hk
      have thA : (g40 A 4).toInt = 0 := by rw [o40.2.2 4 (by decide), og36.2.2 4 (by decide)]; omega
      have mbA : mbI g40 A := by intro i hi_z; rw [ofA.2.1 15 (by decide) (by decide) (by decide), ofA.2.2 37 (by decide)]; exact hmb i hi_z
      refine q_callV3 zm_RX12_502 dX12_madeBy_48 (shM_k hs) (by decide) rfl (Nat.le_of_ble_eq_true rfl) (Nat.le_of_ble_eq_true rfl) (Nat.le_of_ble_eq_true rfl) (Nat.le_of_ble_eq_true rfl) (Nat.le_of_ble_eq_true rfl) (s_X12_asksAll (T := T) (dd := 0) (mm := 5) (L := (lyFlat (tbC T))) (wh := 11) (Inv := (invM A (g40 A 33).toInt ty (fun L => @decide (creC L l) (Classical.propDecidable _)))) (Fin := (fun _ _ _ _ => False)) G hs hw (by omega) hkA e44 (by omega) e47 (by omega) c40 (rch_flat hn6) (by rw [ofA.2.2 37 (by decide)]; omega) (see_mad (tn := x.toInt.toNat) (s := s) (l := l) G hs hw (by omega) (by rw [o40.2.2 33 (by decide), vg36]; omega) (by omega) q2_z q4_z.1) invM_iv (fun f1_z of h28 h30 h31 h32 h37 => invM_0 of h28 h30 h32 (tys_of hty ofA (by decide) (by decide) (fun _ _ => rfl))) (fun g48 j48 o48 t48 c48 => ?_))
      have oq : qM A f g48 j j48 1 := qM_ga ofA o48 t48
      have oth : (g48 A 4).toInt = 0 := by rw [o48.1.2.2 4 (by decide)]; exact thA
      have hI9 : invM A (g40 A 33).toInt ty (fun L => @decide (creC L l) (Classical.propDecidable _)) g48 j48 (allF 6 (lyFlat (tbC T))) := by
        rcases c48 with ⟨_, _, _, _, h9⟩ | h9
        · exact absurd h9 id
        · exact h9
      obtain ⟨_, _, _, _, z0, z1⟩ := hI9
      have hrd : ∃ b : Nat, (g48 A 32).toInt = (b : Nat) ∧ b ≤ 5 ∧ (b ≤ y.toInt.toNat → fdR ((allF 6 (lyFlat (tbC T))).find? (fun y => (fun L => @decide (creC L l) (Classical.propDecidable _)) y.1)) y.toInt = -1) ∧ (y.toInt.toNat < b → fdR ((allF 6 (lyFlat (tbC T))).find? (fun y => (fun L => @decide (creC L l) (Classical.propDecidable _)) y.1)) y.toInt = (g48 (A + 12) y.toInt.toNat).toInt) := by
        cases hf : (allF 6 (lyFlat (tbC T))).find? (fun y => (fun L => @decide (creC L l) (Classical.propDecidable _)) y.1) with
        | none => exact ⟨0, by rw [z0 hf]; rfl, by omega, fun _ => rfl, fun h9 => absurd h9 (by omega)⟩
        | some z =>
          obtain ⟨z2, z3⟩ := z1 z hf
          have hz5 := allF_row (k := 6) z (List.mem_of_find?_eq_some hf)
          refine ⟨z.2.length, z2, by omega, fun h9 => ?_, fun h9 => ?_⟩
          · show (moFold z.2 y.toInt).toInt = -1
            unfold moFold
            rw [if_pos (by omega), List.getElem?_eq_none h9]; rfl
          · have h8 := z3 _ _ (List.getElem?_eq_getElem h9)
            have h7 := Int32.toInt_lt (g48 (A + 12) y.toInt.toNat)
            show (moFold z.2 y.toInt).toInt = _
            unfold moFold
            rw [if_pos (by omega), List.getElem?_eq_getElem h9, h8]
            exact zi_n (by omega)
      obtain ⟨b, b1, b2, b3, b4⟩ := hrd
      refine r_iload2 dX12_madeBy_51 ?_
      refine r_aloadR0 dX12_madeBy_52 ?_
      refine m_getV (x := (g48 A 32)) zf_RX12_428 rfl dX12_madeBy_53 (shM_k hs) (rfl) ?_
      refine t_icge (t := 68) dX12_madeBy_56 (by decide) (fun h56 => ?_) (fun h56 => ?_)
      · refine n_iconst dX12_madeBy_68 (by decide) (fun r68 e68 => ?_)
        refine r_iret dX12_madeBy_69 rfl (Nat.le_of_ble_eq_true rfl) (Nat.le_of_ble_eq_true rfl) ?_
        first
          | (refine hQ q1_z s l q2_z ⟨q4_z, hy⟩ _ g48 j48 ?_ oq oth; rw [b3 (by omega)]; omega)
          | (refine hQ q1_z s l q2_z ⟨q4_z, hy⟩ _ g48 j48 ?_ oq oth; rw [b4 (by omega)])
      · refine r_aloadR0 dX12_madeBy_59 ?_
        refine m_getR (q := (A + 12)) zf_RX12_48 rfl dX12_madeBy_60 (shM_k hs) (shM_p12 hs) ?_
        refine r_iload2 dX12_madeBy_63 ?_
        refine m_iald (k := y.toInt.toNat) (x := (g48 (A + 12) y.toInt.toNat)) dX12_madeBy_64 (shM_k12 hs) (shM_n12 hs) (by omega) (by omega) (rfl) ?_
        refine r_goto (t := 69) dX12_madeBy_65 (by decide) ?_
        refine r_iret dX12_madeBy_69 rfl (Nat.le_of_ble_eq_true rfl) (Nat.le_of_ble_eq_true rfl) ?_
        first
          | (refine hQ q1_z s l q2_z ⟨q4_z, hy⟩ _ g48 j48 ?_ oq oth; rw [b3 (by omega)]; omega)
          | (refine hQ q1_z s l q2_z ⟨q4_z, hy⟩ _ g48 j48 ?_ oq oth; rw [b4 (by omega)])
  · refine m_putI zf_RX12_77 (by intro C T N h_z; cases h_z; rfl) rfl dX12_madeBy_6 (shM_k hs) ?_
    obtain ⟨g6, hg6⟩ : ∃ g9, g9 = zu f A 4 r3 := ⟨_, rfl⟩
    rw [← hg6]
    have og6 : frM A [] [4] f g6 := by rw [hg6]; exact frM_zk frM_rf (by decide)
    have vg6 : g6 A 4 = r3 := by rw [hg6]; exact zu_at
    have vt6 : (g6 A 4).toInt = r3.toInt := by rw [vg6]
    have hk6 : ctKn (g6 (A + 1)) T := by rw [og6.2.1 1 (by decide) (by decide) (by decide)]; exact hk
    refine r_aloadR0 dX12_madeBy_9 ?_
    refine m_getV (x := (g6 A 4)) zf_RX12_77 rfl dX12_madeBy_10 (shM_k hs) (rfl) ?_
    refine t_ifne (t := 25) dX12_madeBy_13 (by decide) (fun h13 => ?_) (fun h13 => False.elim (by omega))
    refine r_aloadR0 dX12_madeBy_25 ?_
    refine m_getV (x := (g6 A 4)) zf_RX12_77 rfl dX12_madeBy_26 (shM_k hs) (rfl) ?_
    refine t_ifle (t := 34) dX12_madeBy_29 (by decide) (fun h29 => False.elim (by omega)) (fun h29 => ?_)
    refine n_iconst dX12_madeBy_32 (by decide) (fun r32 e32 => ?_)
    refine r_iret dX12_madeBy_33 rfl (Nat.le_of_ble_eq_true rfl) (Nat.le_of_ble_eq_true rfl) ?_
    exact hT3 q1_z s l q2_z (fun h9 => q4_z h9.1) _ g6 j (qM_q (show frM A [6, 7, 8, 9, 13, 16, 17] [4, 33, 34] f _ from (frM_su og6 (by decide) (by decide)))) (by omega)
set_option maxHeartbeats 4000000 in
set_option maxRecDepth 100000 in
theorem s_X12_manyFromFlat_sim {g : zGT} {w : zW} {f : Nat → Nat → Int32} {j : Nat → Nat → Int64} {A : Nat} {T : zTb} {x : Int32} {Q : Option Value → zW → Prop} {QX : String → zW → Prop} (G : zGok g) (hs : shM w A) (hk : ctKn (f (A + 1)) T) (hw : wfT T) (hmb : mbI f A) (htn : (f A 37).toInt < 1900000000) (hx0 : x.toInt = 10) (hQ : ∀ (r : Int32) f2_z j2, r.toInt = ((cntS (fun L _ => decide (L.length < 2)) (fun L => orN L (tbC T)) (allF 6 (lyFlat (tbC T)))).length : Nat) → qM A f f2_z j j2 1 → (f2_z A 4).toInt = 0 → Q (some (.int r)) (zM w f2_z j2)) : zC g 17 yX12_manyFromFlat cX12_manyFromFlat 2 (some .int) [.ref A, .int x] (zM w f j) (0, 0) Q QX := by
  refine zC_of G (by decide +kernel) (Nat.le_of_ble_eq_true rfl) ?_
  have hk9 := hk
  obtain ⟨⟨k0_z, k1_z, k2_z, k3_z, k4_z, k5_z, k6_z⟩, km, kg, kp, kl1, kl2, kl3⟩ := hk9
  have km9 := km
  obtain ⟨m1_z, m2_z, m3_z⟩ := km9
  have hn6 : tbC T ≤ 6 := hw.2.1
  have hg4 : tbG T ≤ 4 := hw.2.2.1
  have hwm := hw.2.2.2.2.2.2.2.1
  have hml : T.2.2.1.2.length ≤ 5 := hwm.2.1
  have hm99 := hwm.2.2
  have hrt := wfT_rch hw
  have hLl : (tbL T).length ≤ 6 := Nat.le_trans (rch_cell hrt).2.2.2.2 hn6
  have hpl : T.2.2.2.length ≤ 10 := hw.2.2.2.2.2.2.2.2.1
  refine r_aloadR0 dX12_manyFromFlat_0 ?_
  refine n_iconst dX12_manyFromFlat_1 (by decide) (fun r1 e1_z => ?_)
  refine m_putI zf_RX12_77 (by intro C T N h_z; cases h_z; rfl) rfl dX12_manyFromFlat_2 (shM_k hs) ?_
  obtain ⟨g2, hg2⟩ : ∃ g9, g9 = zu f A 4 r1 := ⟨_, rfl⟩
  rw [← hg2]
  have og2 : frM A [] [4] f g2 := by rw [hg2]; exact frM_zk frM_rf (by decide)
  have vg2 : g2 A 4 = r1 := by rw [hg2]; exact zu_at
  have vt2 : (g2 A 4).toInt = r1.toInt := by rw [vg2]
  have hk2 : ctKn (g2 (A + 1)) T := by rw [og2.2.1 1 (by decide) (by decide) (by decide)]; exact hk
  refine r_aloadR0 dX12_manyFromFlat_5 ?_
  refine q_callV0 zm_RX12_277 dX12_manyFromFlat_6 (shM_k hs) (by decide) rfl (Nat.le_of_ble_eq_true rfl) (Nat.le_of_ble_eq_true rfl) (Nat.le_of_ble_eq_true rfl) (Nat.le_of_ble_eq_true rfl) (Nat.le_of_ble_eq_true rfl) (s_X12_laysFlat G hs hk2.1.2.1 hn6 (fun g6 o6 c6_z => ?_))
  refine r_aloadR0 dX12_manyFromFlat_9 ?_
  refine r_iload1 dX12_manyFromFlat_10 ?_
  refine n_iconst dX12_manyFromFlat_11 (by decide) (fun r11 e11_z => ?_)
  refine n_iconst dX12_manyFromFlat_12 (by decide) (fun r12 e12_z => ?_)
  have ofA := (show frM A [6, 7, 8, 9, 13, 16, 17] [4, 33, 34] f _ from (frM_tr (frM_su og2 (by decide) (by decide)) (frM_su o6 (by decide) (by decide))))
  have hkA : ctKn (g6 (A + 1)) T := by rw [ofA.2.1 1 (by decide) (by decide) (by decide)]; exact hk
  have thA : (g6 A 4).toInt = 0 := by rw [o6.2.2 4 (by decide)]; omega
  have mbA : mbI g6 A := by intro i hi_z; rw [ofA.2.1 15 (by decide) (by decide) (by decide), ofA.2.2 37 (by decide)]; exact hmb i hi_z
  have ofK : frM A [6] [4] f g6 := frM_tr (frM_su og2 (by decide) (by decide)) (frM_su o6 (by decide) (by decide))
  refine q_callV3 zm_RX12_502 dX12_manyFromFlat_13 (shM_k hs) (by decide) rfl (Nat.le_of_ble_eq_true rfl) (Nat.le_of_ble_eq_true rfl) (Nat.le_of_ble_eq_true rfl) (Nat.le_of_ble_eq_true rfl) (Nat.le_of_ble_eq_true rfl) (s_X12_asksAll (T := T) (dd := 0) (mm := 5) (L := (lyFlat (tbC T))) (wh := 10) (Inv := (invC A T 10 (fun i => (f (A + 13) i).toInt) (fun L _ => decide (L.length < 2)) (fun L => orN L (tbC T)))) (Fin := (fun _ _ _ _ => False)) G hs hw (by omega) hkA hx0 (by omega) e12_z (by omega) c6_z (rch_flat hn6) (by rw [ofA.2.2 37 (by decide)]; omega) (see_sim G hs hw (by omega)) invC_iv (fun f1_z of h28 h30 h31 h32 h37 => invC_0 of h28 h30 h37 mbA (fun i hi_z => by rw [ofK.2.1 13 (by decide) (by decide) (by decide)])) (fun g13 j13 o13 t13 c13 => ?_))
  have oq : qM A f g13 j j13 1 := qM_ga ofA o13 t13
  have oth : (g13 A 4).toInt = 0 := by rw [o13.1.2.2 4 (by decide)]; exact thA
  refine r_aloadR0 dX12_manyFromFlat_16 ?_
  refine m_getV (x := (g13 A 30)) zf_RX12_452 rfl dX12_manyFromFlat_17 (shM_k hs) (rfl) ?_
  refine r_iret dX12_manyFromFlat_20 rfl (Nat.le_of_ble_eq_true rfl) (Nat.le_of_ble_eq_true rfl) ?_
  rcases c13 with ⟨_, _, _, _, h9⟩ | h9
  · exact absurd h9 id
  · exact hQ _ g13 j13 h9.2.1 oq oth
set_option maxHeartbeats 4000000 in
set_option maxRecDepth 100000 in
theorem s_X12_simple {g : zGT} {w : zW} {f : Nat → Nat → Int32} {j : Nat → Nat → Int64} {A : Nat} {T : zTb} {Q : Option Value → zW → Prop} {QX : String → zW → Prop} (G : zGok g) (hs : shM w A) (hk : ctKn (f (A + 1)) T) (hw : wfT T) (hmb : mbI f A) (htn : (f A 37).toInt < 1900000000) (hQ : ∀ (r : Int32) f2_z j2, r.toInt = ((cntS (fun L _ => decide (L.length < 2)) (fun L => orN L (tbC T)) (allF 6 (lyFlat (tbC T)))).length : Nat) → qM A f f2_z j j2 1 → (f2_z A 4).toInt = 0 → Q (some (.int r)) (zM w f2_z j2)) : zC g 18 yX12_simple cX12_simple 1 (some .int) [.ref A] (zM w f j) (0, 0) Q QX := by
  refine zC_of G (by decide +kernel) (Nat.le_of_ble_eq_true rfl) ?_
  refine r_aloadR0 dX12_simple_0 ?_
  refine n_bipush dX12_simple_1 (by decide) (fun r1 e1_z => ?_)
  refine q_callV1 zm_RX12_544 dX12_simple_3 (shM_k hs) (by decide) rfl (Nat.le_of_ble_eq_true rfl) (Nat.le_of_ble_eq_true rfl) (Nat.le_of_ble_eq_true rfl) (Nat.le_of_ble_eq_true rfl) (Nat.le_of_ble_eq_true rfl) (s_X12_manyFromFlat_sim G hs hk hw hmb htn (by omega) (fun r3 g3_z j3 e3_z o3 t3 => ?_))
  refine r_iret dX12_simple_6 rfl (Nat.le_of_ble_eq_true rfl) (Nat.le_of_ble_eq_true rfl) ?_
  exact hQ _ g3_z j3 e3_z o3 t3
set_option maxHeartbeats 4000000 in
set_option maxRecDepth 100000 in
theorem s_X12_manyFromFlat_pat {g : zGT} {w : zW} {f : Nat → Nat → Int32} {j : Nat → Nat → Int64} {A : Nat} {T : zTb} {x : Int32} {Q : Option Value → zW → Prop} {QX : String → zW → Prop} (G : zGok g) (hs : shM w A) (hk : ctKn (f (A + 1)) T) (hw : wfT T) (hmb : mbI f A) (htn : (f A 37).toInt < 1900000000) (hx0 : x.toInt = 12) (hQ : ∀ (r : Int32) f2_z j2, r.toInt = ((cntS (fun _ _ => true) (fun L => crN L (tbC T - 1)) (allF 6 (lyFlat (tbC T)))).length : Nat) → qM A f f2_z j j2 1 → (f2_z A 4).toInt = 0 → Q (some (.int r)) (zM w f2_z j2)) : zC g 17 yX12_manyFromFlat cX12_manyFromFlat 2 (some .int) [.ref A, .int x] (zM w f j) (0, 0) Q QX := by
  refine zC_of G (by decide +kernel) (Nat.le_of_ble_eq_true rfl) ?_
  have hk9 := hk
  obtain ⟨⟨k0_z, k1_z, k2_z, k3_z, k4_z, k5_z, k6_z⟩, km, kg, kp, kl1, kl2, kl3⟩ := hk9
  have km9 := km
  obtain ⟨m1_z, m2_z, m3_z⟩ := km9
  have hn6 : tbC T ≤ 6 := hw.2.1
  have hg4 : tbG T ≤ 4 := hw.2.2.1
  have hwm := hw.2.2.2.2.2.2.2.1
  have hml : T.2.2.1.2.length ≤ 5 := hwm.2.1
  have hm99 := hwm.2.2
  have hrt := wfT_rch hw
  have hLl : (tbL T).length ≤ 6 := Nat.le_trans (rch_cell hrt).2.2.2.2 hn6
  have hpl : T.2.2.2.length ≤ 10 := hw.2.2.2.2.2.2.2.2.1
  refine r_aloadR0 dX12_manyFromFlat_0 ?_
  refine n_iconst dX12_manyFromFlat_1 (by decide) (fun r1 e1_z => ?_)
  refine m_putI zf_RX12_77 (by intro C T N h_z; cases h_z; rfl) rfl dX12_manyFromFlat_2 (shM_k hs) ?_
  obtain ⟨g2, hg2⟩ : ∃ g9, g9 = zu f A 4 r1 := ⟨_, rfl⟩
  rw [← hg2]
  have og2 : frM A [] [4] f g2 := by rw [hg2]; exact frM_zk frM_rf (by decide)
  have vg2 : g2 A 4 = r1 := by rw [hg2]; exact zu_at
  have vt2 : (g2 A 4).toInt = r1.toInt := by rw [vg2]
  have hk2 : ctKn (g2 (A + 1)) T := by rw [og2.2.1 1 (by decide) (by decide) (by decide)]; exact hk
  refine r_aloadR0 dX12_manyFromFlat_5 ?_
  refine q_callV0 zm_RX12_277 dX12_manyFromFlat_6 (shM_k hs) (by decide) rfl (Nat.le_of_ble_eq_true rfl) (Nat.le_of_ble_eq_true rfl) (Nat.le_of_ble_eq_true rfl) (Nat.le_of_ble_eq_true rfl) (Nat.le_of_ble_eq_true rfl) (s_X12_laysFlat G hs hk2.1.2.1 hn6 (fun g6 o6 c6_z => ?_))
  refine r_aloadR0 dX12_manyFromFlat_9 ?_
  refine r_iload1 dX12_manyFromFlat_10 ?_
  refine n_iconst dX12_manyFromFlat_11 (by decide) (fun r11 e11_z => ?_)
  refine n_iconst dX12_manyFromFlat_12 (by decide) (fun r12 e12_z => ?_)
  have ofA := (show frM A [6, 7, 8, 9, 13, 16, 17] [4, 33, 34] f _ from (frM_tr (frM_su og2 (by decide) (by decide)) (frM_su o6 (by decide) (by decide))))
  have hkA : ctKn (g6 (A + 1)) T := by rw [ofA.2.1 1 (by decide) (by decide) (by decide)]; exact hk
  have thA : (g6 A 4).toInt = 0 := by rw [o6.2.2 4 (by decide)]; omega
  have mbA : mbI g6 A := by intro i hi_z; rw [ofA.2.1 15 (by decide) (by decide) (by decide), ofA.2.2 37 (by decide)]; exact hmb i hi_z
  have ofK : frM A [6] [4] f g6 := frM_tr (frM_su og2 (by decide) (by decide)) (frM_su o6 (by decide) (by decide))
  refine q_callV3 zm_RX12_502 dX12_manyFromFlat_13 (shM_k hs) (by decide) rfl (Nat.le_of_ble_eq_true rfl) (Nat.le_of_ble_eq_true rfl) (Nat.le_of_ble_eq_true rfl) (Nat.le_of_ble_eq_true rfl) (Nat.le_of_ble_eq_true rfl) (s_X12_asksAll (T := T) (dd := 0) (mm := 5) (L := (lyFlat (tbC T))) (wh := 12) (Inv := (invC A T 12 (fun i => (f (A + 13) i).toInt) (fun _ _ => true) (fun L => crN L (tbC T - 1)))) (Fin := (fun _ _ _ _ => False)) G hs hw (by omega) hkA hx0 (by omega) e12_z (by omega) c6_z (rch_flat hn6) (by rw [ofA.2.2 37 (by decide)]; omega) (see_pat G hs hw (by omega)) invC_iv (fun f1_z of h28 h30 h31 h32 h37 => invC_0 of h28 h30 h37 mbA (fun i hi_z => by rw [ofK.2.1 13 (by decide) (by decide) (by decide)])) (fun g13 j13 o13 t13 c13 => ?_))
  have oq : qM A f g13 j j13 1 := qM_ga ofA o13 t13
  have oth : (g13 A 4).toInt = 0 := by rw [o13.1.2.2 4 (by decide)]; exact thA
  refine r_aloadR0 dX12_manyFromFlat_16 ?_
  refine m_getV (x := (g13 A 30)) zf_RX12_452 rfl dX12_manyFromFlat_17 (shM_k hs) (rfl) ?_
  refine r_iret dX12_manyFromFlat_20 rfl (Nat.le_of_ble_eq_true rfl) (Nat.le_of_ble_eq_true rfl) ?_
  rcases c13 with ⟨_, _, _, _, h9⟩ | h9
  · exact absurd h9 id
  · exact hQ _ g13 j13 h9.2.1 oq oth
set_option maxHeartbeats 4000000 in
set_option maxRecDepth 100000 in
theorem s_X12_patterns {g : zGT} {w : zW} {f : Nat → Nat → Int32} {j : Nat → Nat → Int64} {A : Nat} {T : zTb} {Q : Option Value → zW → Prop} {QX : String → zW → Prop} (G : zGok g) (hs : shM w A) (hk : ctKn (f (A + 1)) T) (hw : wfT T) (hmb : mbI f A) (htn : (f A 37).toInt < 1900000000) (hQ : ∀ (r : Int32) f2_z j2, r.toInt = ((cntS (fun _ _ => true) (fun L => crN L (tbC T - 1)) (allF 6 (lyFlat (tbC T)))).length : Nat) → qM A f f2_z j j2 1 → (f2_z A 4).toInt = 0 → Q (some (.int r)) (zM w f2_z j2)) : zC g 18 yX12_patterns cX12_patterns 1 (some .int) [.ref A] (zM w f j) (0, 0) Q QX := by
  refine zC_of G (by decide +kernel) (Nat.le_of_ble_eq_true rfl) ?_
  refine r_aloadR0 dX12_patterns_0 ?_
  refine n_bipush dX12_patterns_1 (by decide) (fun r1 e1_z => ?_)
  refine q_callV1 zm_RX12_544 dX12_patterns_3 (shM_k hs) (by decide) rfl (Nat.le_of_ble_eq_true rfl) (Nat.le_of_ble_eq_true rfl) (Nat.le_of_ble_eq_true rfl) (Nat.le_of_ble_eq_true rfl) (Nat.le_of_ble_eq_true rfl) (s_X12_manyFromFlat_pat G hs hk hw hmb htn (by omega) (fun r3 g3_z j3 e3_z o3 t3 => ?_))
  refine r_iret dX12_patterns_6 rfl (Nat.le_of_ble_eq_true rfl) (Nat.le_of_ble_eq_true rfl) ?_
  exact hQ _ g3_z j3 e3_z o3 t3
set_option maxHeartbeats 4000000 in
set_option maxRecDepth 100000 in
theorem s_X12_reads {g : zGT} {w : zW} {f : Nat → Nat → Int32} {j : Nat → Nat → Int64} {A : Nat} {T : zTb} {x y : Int32} {ty : Nat → zTy} {Q : Option Value → zW → Prop} {QX : String → zW → Prop} (G : zGok g) (hs : shM w A) (hk : ctKn (f (A + 1)) T) (hw : wfT T) (hmb : mbI f A) (htn : (f A 37).toInt < 1900000000) (hty : ∀ t, t < 4 → ctTm f j A t (ty t)) (hT1 : ¬ (0 ≤ x.toInt ∧ x.toInt < 4) → ∀ (r : Int32) f2_z j2, qM A f f2_z j j2 0 → (f2_z A 4).toInt = 1 → Q (some (.int r)) (zM w f2_z j2)) (hT2 : (0 ≤ x.toInt ∧ x.toInt < 4) → ty x.toInt.toNat = none → ∀ (r : Int32) f2_z j2, qM A f f2_z j j2 0 → (f2_z A 4).toInt = 2 → Q (some (.int r)) (zM w f2_z j2)) (hT3 : (0 ≤ x.toInt ∧ x.toInt < 4) → ∀ s l, ty x.toInt.toNat = some (s, l) → ¬ (sightC l ∧ (y.toInt = 0 ∨ 10 ≤ y.toInt ∧ y.toInt ≤ 14)) → ∀ (r : Int32) f2_z j2, qM A f f2_z j j2 0 → (f2_z A 4).toInt = 3 → Q (some (.int r)) (zM w f2_z j2)) (hQ : (0 ≤ x.toInt ∧ x.toInt < 4) → ∀ s l, ty x.toInt.toNat = some (s, l) → (sightC l ∧ (y.toInt = 0 ∨ 10 ≤ y.toInt ∧ y.toInt ≤ 14)) → ∀ (r : Int32) f2_z j2, r.toInt = fstI (fstR (fun L _ => @decide (lookC T.2.2.1.1 L l) (Classical.propDecidable _)) (allF 6 (tbL T))) y.toInt → qM A f f2_z j j2 1 → (f2_z A 4).toInt = 0 → Q (some (.int r)) (zM w f2_z j2)) : zC g 17 yX12_reads cX12_reads 3 (some .int) [.ref A, .int x, .int y] (zM w f j) (0, 0) Q QX := by
  refine zC_of G (by decide +kernel) (Nat.le_of_ble_eq_true rfl) ?_
  have hk9 := hk
  obtain ⟨⟨k0_z, k1_z, k2_z, k3_z, k4_z, k5_z, k6_z⟩, km, kg, kp, kl1, kl2, kl3⟩ := hk9
  have km9 := km
  obtain ⟨m1_z, m2_z, m3_z⟩ := km9
  have hn6 : tbC T ≤ 6 := hw.2.1
  have hg4 : tbG T ≤ 4 := hw.2.2.1
  have hwm := hw.2.2.2.2.2.2.2.1
  have hml : T.2.2.1.2.length ≤ 5 := hwm.2.1
  have hm99 := hwm.2.2
  have hrt := wfT_rch hw
  have hLl : (tbL T).length ≤ 6 := Nat.le_trans (rch_cell hrt).2.2.2.2 hn6
  have hpl : T.2.2.2.length ≤ 10 := hw.2.2.2.2.2.2.2.2.1
  refine r_aloadR0 dX12_reads_0 ?_
  refine r_aloadR0 dX12_reads_1 ?_
  refine r_iload1 dX12_reads_2 ?_
  refine q_callV1 zm_RX12_524 dX12_reads_3 (shM_k hs) (by decide) rfl (Nat.le_of_ble_eq_true rfl) (Nat.le_of_ble_eq_true rfl) (Nat.le_of_ble_eq_true rfl) (Nat.le_of_ble_eq_true rfl) (Nat.le_of_ble_eq_true rfl) (s_X12_marksFault G hs hk hw hty (fun r3 e3_z => ?_))
  rcases e3_z with ⟨q1_z, q2_z⟩ | ⟨q1_z, q2_z, q3_z⟩ | ⟨q1_z, s, l, q2_z, ⟨q3_z, q4_z⟩ | ⟨q3_z, q4_z⟩⟩
  · refine m_putI zf_RX12_77 (by intro C T N h_z; cases h_z; rfl) rfl dX12_reads_6 (shM_k hs) ?_
    obtain ⟨g6, hg6⟩ : ∃ g9, g9 = zu f A 4 r3 := ⟨_, rfl⟩
    rw [← hg6]
    have og6 : frM A [] [4] f g6 := by rw [hg6]; exact frM_zk frM_rf (by decide)
    have vg6 : g6 A 4 = r3 := by rw [hg6]; exact zu_at
    have vt6 : (g6 A 4).toInt = r3.toInt := by rw [vg6]
    have hk6 : ctKn (g6 (A + 1)) T := by rw [og6.2.1 1 (by decide) (by decide) (by decide)]; exact hk
    refine r_aloadR0 dX12_reads_9 ?_
    refine m_getV (x := (g6 A 4)) zf_RX12_77 rfl dX12_reads_10 (shM_k hs) (rfl) ?_
    refine t_ifne (t := 28) dX12_reads_13 (by decide) (fun h13 => ?_) (fun h13 => False.elim (by omega))
    refine r_aloadR0 dX12_reads_28 ?_
    refine m_getV (x := (g6 A 4)) zf_RX12_77 rfl dX12_reads_29 (shM_k hs) (rfl) ?_
    refine t_ifle (t := 37) dX12_reads_32 (by decide) (fun h32 => False.elim (by omega)) (fun h32 => ?_)
    refine n_iconst dX12_reads_35 (by decide) (fun r35 e35 => ?_)
    refine r_iret dX12_reads_36 rfl (Nat.le_of_ble_eq_true rfl) (Nat.le_of_ble_eq_true rfl) ?_
    exact hT1 q1_z _ g6 j (qM_q (show frM A [6, 7, 8, 9, 13, 16, 17] [4, 33, 34] f _ from (frM_su og6 (by decide) (by decide)))) (by omega)
  · refine m_putI zf_RX12_77 (by intro C T N h_z; cases h_z; rfl) rfl dX12_reads_6 (shM_k hs) ?_
    obtain ⟨g6, hg6⟩ : ∃ g9, g9 = zu f A 4 r3 := ⟨_, rfl⟩
    rw [← hg6]
    have og6 : frM A [] [4] f g6 := by rw [hg6]; exact frM_zk frM_rf (by decide)
    have vg6 : g6 A 4 = r3 := by rw [hg6]; exact zu_at
    have vt6 : (g6 A 4).toInt = r3.toInt := by rw [vg6]
    have hk6 : ctKn (g6 (A + 1)) T := by rw [og6.2.1 1 (by decide) (by decide) (by decide)]; exact hk
    refine r_aloadR0 dX12_reads_9 ?_
    refine m_getV (x := (g6 A 4)) zf_RX12_77 rfl dX12_reads_10 (shM_k hs) (rfl) ?_
    refine t_ifne (t := 28) dX12_reads_13 (by decide) (fun h13 => ?_) (fun h13 => False.elim (by omega))
    refine r_aloadR0 dX12_reads_28 ?_
    refine m_getV (x := (g6 A 4)) zf_RX12_77 rfl dX12_reads_29 (shM_k hs) (rfl) ?_
    refine t_ifle (t := 37) dX12_reads_32 (by decide) (fun h32 => False.elim (by omega)) (fun h32 => ?_)
    refine n_iconst dX12_reads_35 (by decide) (fun r35 e35 => ?_)
    refine r_iret dX12_reads_36 rfl (Nat.le_of_ble_eq_true rfl) (Nat.le_of_ble_eq_true rfl) ?_
    exact hT2 q1_z q2_z _ g6 j (qM_q (show frM A [6, 7, 8, 9, 13, 16, 17] [4, 33, 34] f _ from (frM_su og6 (by decide) (by decide)))) (by omega)
  · rcases Classical.em (y.toInt = 0 ∨ 10 ≤ y.toInt ∧ y.toInt ≤ 14) with hwc | hwc
    · refine m_putI zf_RX12_77 (by intro C T N h_z; cases h_z; rfl) rfl dX12_reads_6 (shM_k hs) ?_
      obtain ⟨g6, hg6⟩ : ∃ g9, g9 = zu f A 4 r3 := ⟨_, rfl⟩
      rw [← hg6]
      have og6 : frM A [] [4] f g6 := by rw [hg6]; exact frM_zk frM_rf (by decide)
      have vg6 : g6 A 4 = r3 := by rw [hg6]; exact zu_at
      have vt6 : (g6 A 4).toInt = r3.toInt := by rw [vg6]
      have hk6 : ctKn (g6 (A + 1)) T := by rw [og6.2.1 1 (by decide) (by decide) (by decide)]; exact hk
      refine r_aloadR0 dX12_reads_9 ?_
      refine m_getV (x := (g6 A 4)) zf_RX12_77 rfl dX12_reads_10 (shM_k hs) (rfl) ?_
      refine t_ifne (t := 28) dX12_reads_13 (by decide) (fun h13 => False.elim (by omega)) (fun h13 => ?_)
      refine r_iload2 dX12_reads_16 ?_
      refine q_callS1 zm_RX12_510 dX12_reads_17 (Nat.le_of_ble_eq_true rfl) (Nat.le_of_ble_eq_true rfl) (Nat.le_of_ble_eq_true rfl) (Nat.le_of_ble_eq_true rfl) (Nat.le_of_ble_eq_true rfl) (s_X12_isWhat G (fun r17 e17_z => ?_))
      refine t_ifne (t := 28) dX12_reads_20 (by decide) (fun h20 => ?_) (fun h20 => False.elim (by omega))
      refine r_aloadR0 dX12_reads_28 ?_
      refine m_getV (x := (g6 A 4)) zf_RX12_77 rfl dX12_reads_29 (shM_k hs) (rfl) ?_
      refine t_ifle (t := 37) dX12_reads_32 (by decide) (fun h32 => ?_) (fun h32 => False.elim (by omega))
      refine r_aloadR0 dX12_reads_37 ?_
      refine r_iload1 dX12_reads_38 ?_
      refine m_putI zf_RX12_449 (by intro C T N h_z; cases h_z; rfl) rfl dX12_reads_39 (shM_k hs) ?_
      obtain ⟨g39, hg39⟩ : ∃ g9, g9 = zu g6 A 33 x := ⟨_, rfl⟩
      rw [← hg39]
      have og39 : frM A [] [33] g6 g39 := by rw [hg39]; exact frM_zk frM_rf (by decide)
      have vg39 : g39 A 33 = x := by rw [hg39]; exact zu_at
      have vt39 : (g39 A 33).toInt = x.toInt := by rw [vg39]
      have hk39 : ctKn (g39 (A + 1)) T := by rw [og39.2.1 1 (by decide) (by decide) (by decide)]; exact hk6
      refine r_aloadR0 dX12_reads_42 ?_
      refine n_iconst dX12_reads_43 (by decide) (fun r43 e43 => ?_)
      refine r_aloadR0 dX12_reads_44 ?_
      refine q_callV0 zm_RX12_343 dX12_reads_45 (shM_k hs) (by decide) rfl (Nat.le_of_ble_eq_true rfl) (Nat.le_of_ble_eq_true rfl) (Nat.le_of_ble_eq_true rfl) (Nat.le_of_ble_eq_true rfl) (Nat.le_of_ble_eq_true rfl) (s_X12_now G hs hk39 hw (fun r45 g45 e45 o45 c45 => ?_))
      refine n_iconst dX12_reads_48 (by decide) (fun r48 e48 => ?_)
      have ofA := (show frM A [6, 7, 8, 9, 13, 16, 17] [4, 33, 34] f _ from (frM_tr (frM_tr (frM_su og6 (by decide) (by decide)) (frM_su og39 (by decide) (by decide))) (frM_su o45 (by decide) (by decide))))
      have hkA : ctKn (g45 (A + 1)) T := by rw [ofA.2.1 1 (by decide) (by decide) (by decide)]; exact hk
      have thA : (g45 A 4).toInt = 0 := by rw [o45.2.2 4 (by decide), og39.2.2 4 (by decide)]; omega
      have mbA : mbI g45 A := by intro i hi_z; rw [ofA.2.1 15 (by decide) (by decide) (by decide), ofA.2.2 37 (by decide)]; exact hmb i hi_z
      refine q_callV3 zm_RX12_502 dX12_reads_49 (shM_k hs) (by decide) rfl (Nat.le_of_ble_eq_true rfl) (Nat.le_of_ble_eq_true rfl) (Nat.le_of_ble_eq_true rfl) (Nat.le_of_ble_eq_true rfl) (Nat.le_of_ble_eq_true rfl) (s_X12_asksAll (T := T) (dd := T.2.2.1.2.length) (mm := 5) (L := (tbL T)) (wh := 4) (Inv := (invF A 4 (g45 A 33).toInt ty (fun L _ => @decide (lookC T.2.2.1.1 L l) (Classical.propDecidable _)))) (Fin := (finF A (fun L _ => @decide (lookC T.2.2.1.1 L l) (Classical.propDecidable _)))) G hs hw hml hkA e43 e45 e48 (by omega) c45 hrt (by rw [ofA.2.2 37 (by decide)]; omega) (see_rea (tn := x.toInt.toNat) (s := s) (l := l) G hs hw hml (by rw [o45.2.2 33 (by decide), vg39]; omega) (by omega) q2_z) invF_iv (fun f1_z of h28 h30 h31 h32 h37 => invF_0 of rfl h28 h31 h32 (tys_of hty ofA (by decide) (by decide) (fun _ _ => rfl))) (fun g49 j49 o49 t49 c49 => ?_))
      have oq : qM A f g49 j j49 1 := qM_ga ofA o49 t49
      have oth : (g49 A 4).toInt = 0 := by rw [o49.1.2.2 4 (by decide)]; exact thA
      rcases c49 with ⟨qs, z, rest, h1, h2, h3, h4, h5, h6⟩ | ⟨_, _, h9, h10, _, h12⟩
      · have hz5 : z.2.length ≤ 5 := by have h9 := allF_row (k := 6) (L := tbL T) z (by rw [h1]; simp); omega
        refine r_aloadR0 dX12_reads_52 ?_
        refine r_iload2 dX12_reads_53 ?_
        refine q_callV1 zm_RX12_513 dX12_reads_54 (shM_k hs) (by decide) rfl (Nat.le_of_ble_eq_true rfl) (Nat.le_of_ble_eq_true rfl) (Nat.le_of_ble_eq_true rfl) (Nat.le_of_ble_eq_true rfl) (Nat.le_of_ble_eq_true rfl) (s_X12_toldRow_s (r := z.2) (v := (z.2.length : Nat)) G hs rfl h2 h3 h4 hz5 hwc (fun r54 e54 => ?_))
        refine r_iret dX12_reads_57 rfl (Nat.le_of_ble_eq_true rfl) (Nat.le_of_ble_eq_true rfl) ?_
        refine hQ q1_z s l q2_z ⟨q4_z, hwc⟩ _ g49 j49 ?_ oq oth
        rw [show allF 6 (tbL T) = qs ++ z :: rest from h1, fstR_s h6 h5]
        exact e54
      · refine r_aloadR0 dX12_reads_52 ?_
        refine r_iload2 dX12_reads_53 ?_
        refine q_callV1 zm_RX12_513 dX12_reads_54 (shM_k hs) (by decide) rfl (Nat.le_of_ble_eq_true rfl) (Nat.le_of_ble_eq_true rfl) (Nat.le_of_ble_eq_true rfl) (Nat.le_of_ble_eq_true rfl) (Nat.le_of_ble_eq_true rfl) (s_X12_toldRow_n G hs h9 hwc (fun r54 e54 => ?_))
        refine r_iret dX12_reads_57 rfl (Nat.le_of_ble_eq_true rfl) (Nat.le_of_ble_eq_true rfl) ?_
        refine hQ q1_z s l q2_z ⟨q4_z, hwc⟩ _ g49 j49 ?_ oq oth
        rw [fstR_n h12]
        exact e54
    · refine m_putI zf_RX12_77 (by intro C T N h_z; cases h_z; rfl) rfl dX12_reads_6 (shM_k hs) ?_
      obtain ⟨g6, hg6⟩ : ∃ g9, g9 = zu f A 4 r3 := ⟨_, rfl⟩
      rw [← hg6]
      have og6 : frM A [] [4] f g6 := by rw [hg6]; exact frM_zk frM_rf (by decide)
      have vg6 : g6 A 4 = r3 := by rw [hg6]; exact zu_at
      have vt6 : (g6 A 4).toInt = r3.toInt := by rw [vg6]
      have hk6 : ctKn (g6 (A + 1)) T := by rw [og6.2.1 1 (by decide) (by decide) (by decide)]; exact hk
      refine r_aloadR0 dX12_reads_9 ?_
      refine m_getV (x := (g6 A 4)) zf_RX12_77 rfl dX12_reads_10 (shM_k hs) (rfl) ?_
      refine t_ifne (t := 28) dX12_reads_13 (by decide) (fun h13 => False.elim (by omega)) (fun h13 => ?_)
      refine r_iload2 dX12_reads_16 ?_
      refine q_callS1 zm_RX12_510 dX12_reads_17 (Nat.le_of_ble_eq_true rfl) (Nat.le_of_ble_eq_true rfl) (Nat.le_of_ble_eq_true rfl) (Nat.le_of_ble_eq_true rfl) (Nat.le_of_ble_eq_true rfl) (s_X12_isWhat G (fun r17 e17_z => ?_))
      refine t_ifne (t := 28) dX12_reads_20 (by decide) (fun h20 => False.elim (by omega)) (fun h20 => ?_)
      refine r_aloadR0 dX12_reads_23 ?_
      refine n_iconst dX12_reads_24 (by decide) (fun r24 e24_z => ?_)
      refine m_putI zf_RX12_77 (by intro C T N h_z; cases h_z; rfl) rfl dX12_reads_25 (shM_k hs) ?_
      obtain ⟨g25, hg25⟩ : ∃ g9, g9 = zu g6 A 4 r24 := ⟨_, rfl⟩
      rw [← hg25]
      have og25 : frM A [] [4] g6 g25 := by rw [hg25]; exact frM_zk frM_rf (by decide)
      have vg25 : g25 A 4 = r24 := by rw [hg25]; exact zu_at
      have vt25 : (g25 A 4).toInt = r24.toInt := by rw [vg25]
      have hk25 : ctKn (g25 (A + 1)) T := by rw [og25.2.1 1 (by decide) (by decide) (by decide)]; exact hk6
      refine r_aloadR0 dX12_reads_28 ?_
      refine m_getV (x := (g25 A 4)) zf_RX12_77 rfl dX12_reads_29 (shM_k hs) (rfl) ?_
      refine t_ifle (t := 37) dX12_reads_32 (by decide) (fun h32 => False.elim (by omega)) (fun h32 => ?_)
      refine n_iconst dX12_reads_35 (by decide) (fun r35 e35 => ?_)
      refine r_iret dX12_reads_36 rfl (Nat.le_of_ble_eq_true rfl) (Nat.le_of_ble_eq_true rfl) ?_
      exact hT3 q1_z s l q2_z (fun h9 => hwc h9.2) _ g25 j (qM_q (show frM A [6, 7, 8, 9, 13, 16, 17] [4, 33, 34] f _ from (frM_tr (frM_su og6 (by decide) (by decide)) (frM_su og25 (by decide) (by decide))))) (by omega)
  · refine m_putI zf_RX12_77 (by intro C T N h_z; cases h_z; rfl) rfl dX12_reads_6 (shM_k hs) ?_
    obtain ⟨g6, hg6⟩ : ∃ g9, g9 = zu f A 4 r3 := ⟨_, rfl⟩
    rw [← hg6]
    have og6 : frM A [] [4] f g6 := by rw [hg6]; exact frM_zk frM_rf (by decide)
    have vg6 : g6 A 4 = r3 := by rw [hg6]; exact zu_at
    have vt6 : (g6 A 4).toInt = r3.toInt := by rw [vg6]
    have hk6 : ctKn (g6 (A + 1)) T := by rw [og6.2.1 1 (by decide) (by decide) (by decide)]; exact hk
    refine r_aloadR0 dX12_reads_9 ?_
    refine m_getV (x := (g6 A 4)) zf_RX12_77 rfl dX12_reads_10 (shM_k hs) (rfl) ?_
    refine t_ifne (t := 28) dX12_reads_13 (by decide) (fun h13 => ?_) (fun h13 => False.elim (by omega))
    refine r_aloadR0 dX12_reads_28 ?_
    refine m_getV (x := (g6 A 4)) zf_RX12_77 rfl dX12_reads_29 (shM_k hs) (rfl) ?_
    refine t_ifle (t := 37) dX12_reads_32 (by decide) (fun h32 => False.elim (by omega)) (fun h32 => ?_)
    refine n_iconst dX12_reads_35 (by decide) (fun r35 e35 => ?_)
    refine r_iret dX12_reads_36 rfl (Nat.le_of_ble_eq_true rfl) (Nat.le_of_ble_eq_true rfl) ?_
    exact hT3 q1_z s l q2_z (fun h9 => q4_z h9.1) _ g6 j (qM_q (show frM A [6, 7, 8, 9, 13, 16, 17] [4, 33, 34] f _ from (frM_su og6 (by decide) (by decide)))) (by omega)
