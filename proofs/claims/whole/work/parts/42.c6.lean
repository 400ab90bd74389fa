/-! the class: how it lies, what is seen, worth, holds, likes -/
set_option maxHeartbeats 4000000 in
set_option maxRecDepth 100000 in
theorem s_X11_worth {g : zGT} {w : zW} {f : Nat → Nat → Int32} {j : Nat → Nat → Int64} {X : Nat} {T : zTb} {Q : Option Value → zW → Prop} {QX : String → zW → Prop} (G : zGok g) (hx : shX w X) (ht : tbAt w f X (X + 11) T) (hQ : ∀ (r : Int32) f2_z, r.toInt = worV T (tbL T) T.2.2.1.2.length → qX X f f2_z → Q (some (.int r)) (zM w f2_z j)) : zC g 7 yX11_worth cX11_worth 1 (some .int) [.ref X] (zM w f j) (0, 0) Q QX := by
  refine zC_of G (by decide +kernel) (Nat.le_of_ble_eq_true rfl) ?_
  have ht0 := ht
  obtain ⟨nq, pp, g0, p0, hnq, hna0, hpp, hctb, hpast, hwf⟩ := ht0
  have hna1 := hna0
  obtain ⟨hna, hcn, ⟨hz1, hz2, hz3⟩, hl1, hl2, hl3⟩ := hna0
  have hmo := hctb.2.2.1
  have hn6 : tbC T ≤ 6 := hwf.2.1
  have hg4 : tbG T ≤ 4 := hwf.2.2.1
  have hwm := hwf.2.2.2.2.2.2.2.1
  have hrt := wfT_rch hwf
  have hfl : (f (X + 11 + 7) 2).toInt = (T.2.2.1.2.length : Nat) := by rw [hmo.1]; have := hmo.2.1; exact zi_n (by omega)
  have hcells : (f nq 1).toInt = (tbC T : Nat) := by rw [hcn.2.1]; exact zi_n (n := tbC T) (by omega)
  have hgs : (f nq 2).toInt = (tbG T : Nat) := by rw [hcn.2.2.1]; exact zi_n (n := tbG T) (by omega)
  refine r_aloadR0 dX11_worth_0 ?_
  refine q_callV0 zm_RX11_198 dX11_worth_1 (shX_k hx) (by decide) rfl (Nat.le_of_ble_eq_true rfl) (Nat.le_of_ble_eq_true rfl) (Nat.le_of_ble_eq_true rfl) (Nat.le_of_ble_eq_true rfl) (Nat.le_of_ble_eq_true rfl) (s_X11_viewNow G hx ht (fun f1_z ho1 hv1 => ?_))
  have ht1 := tbAt_Q ht (frS_Q ho1)
  have hl5 := hmo.2.1
  refine r_aloadR0 dX11_worth_4 ?_
  refine q_callV0 zm_RX11_201 dX11_worth_5 (shX_k hx) (by decide) rfl (Nat.le_of_ble_eq_true rfl) (Nat.le_of_ble_eq_true rfl) (Nat.le_of_ble_eq_true rfl) (Nat.le_of_ble_eq_true rfl) (Nat.le_of_ble_eq_true rfl) (s_X11_worthInView (L := tbL T) (d := T.2.2.1.2.length) G hx ht1 hv1 hrt (by omega) (fun r5 f2_z e5_z ho2 => ?_))
  refine r_iret dX11_worth_8 rfl (Nat.le_of_ble_eq_true rfl) (Nat.le_of_ble_eq_true rfl) ?_
  exact hQ _ f2_z e5_z (qX_S (frS_tr ho1 (frS_R ho2 (by omega))))
set_option maxHeartbeats 4000000 in
set_option maxRecDepth 100000 in
theorem s_X11_holds {g : zGT} {w : zW} {f : Nat → Nat → Int32} {j : Nat → Nat → Int64} {X : Nat} {T : zTb} {Q : Option Value → zW → Prop} {QX : String → zW → Prop} (G : zGok g) (hx : shX w X) (ht : tbAt w f X (X + 11) T) (hQ : ∀ (r : Int32) f2_z, (r.toInt = 1 ∧ holV T (tbL T) T.2.2.1.2.length ≠ 0 ∨ r.toInt = 0 ∧ holV T (tbL T) T.2.2.1.2.length = 0) → qX X f f2_z → Q (some (.int r)) (zM w f2_z j)) : zC g 7 yX11_holds cX11_holds 1 (some .boolean) [.ref X] (zM w f j) (0, 0) Q QX := by
  refine zC_of G (by decide +kernel) (Nat.le_of_ble_eq_true rfl) ?_
  have ht0 := ht
  obtain ⟨nq, pp, g0, p0, hnq, hna0, hpp, hctb, hpast, hwf⟩ := ht0
  have hna1 := hna0
  obtain ⟨hna, hcn, ⟨hz1, hz2, hz3⟩, hl1, hl2, hl3⟩ := hna0
  have hmo := hctb.2.2.1
  have hn6 : tbC T ≤ 6 := hwf.2.1
  have hg4 : tbG T ≤ 4 := hwf.2.2.1
  have hwm := hwf.2.2.2.2.2.2.2.1
  have hrt := wfT_rch hwf
  have hfl : (f (X + 11 + 7) 2).toInt = (T.2.2.1.2.length : Nat) := by rw [hmo.1]; have := hmo.2.1; exact zi_n (by omega)
  have hcells : (f nq 1).toInt = (tbC T : Nat) := by rw [hcn.2.1]; exact zi_n (n := tbC T) (by omega)
  have hgs : (f nq 2).toInt = (tbG T : Nat) := by rw [hcn.2.2.1]; exact zi_n (n := tbG T) (by omega)
  refine r_aloadR0 dX11_holds_0 ?_
  refine q_callV0 zm_RX11_198 dX11_holds_1 (shX_k hx) (by decide) rfl (Nat.le_of_ble_eq_true rfl) (Nat.le_of_ble_eq_true rfl) (Nat.le_of_ble_eq_true rfl) (Nat.le_of_ble_eq_true rfl) (Nat.le_of_ble_eq_true rfl) (s_X11_viewNow G hx ht (fun f1_z ho1 hv1 => ?_))
  have ht1 := tbAt_Q ht (frS_Q ho1)
  have hl5 := hmo.2.1
  refine r_aloadR0 dX11_holds_4 ?_
  refine q_callV0 zm_RX11_205 dX11_holds_5 (shX_k hx) (by decide) rfl (Nat.le_of_ble_eq_true rfl) (Nat.le_of_ble_eq_true rfl) (Nat.le_of_ble_eq_true rfl) (Nat.le_of_ble_eq_true rfl) (Nat.le_of_ble_eq_true rfl) (s_X11_holdsInView (L := tbL T) (d := T.2.2.1.2.length) G hx ht1 hv1 hrt (by omega) (fun r5 f2_z e5_z ho2 => ?_))
  refine m_zret dX11_holds_8 rfl (by omega) (Nat.le_of_ble_eq_true rfl) (Nat.le_of_ble_eq_true rfl) ?_
  exact hQ _ f2_z e5_z (qX_S (frS_tr ho1 (frS_R ho2 (by omega))))
set_option maxHeartbeats 4000000 in
set_option maxRecDepth 100000 in
theorem s_X11_likes {g : zGT} {w : zW} {f : Nat → Nat → Int32} {j : Nat → Nat → Int64} {X : Nat} {T : zTb} {x : Int32} {Q : Option Value → zW → Prop} {QX : String → zW → Prop} (G : zGok g) (hx : shX w X) (ht : tbAt w f X (X + 11) T) (hXNE : ¬ (0 ≤ x.toInt ∧ x.toInt < (tbG T : Nat)) → ∀ n, zS w ≤ n → QX "java/util/NoSuchElementException" (zsS (zM w f j) n)) (hQ : (0 ≤ x.toInt ∧ x.toInt < (tbG T : Nat)) → ∀ (r : Int32) f2_z, r.toInt = likV T (tbL T) T.2.2.1.2.length x.toInt.toNat → qX X f f2_z → Q (some (.int r)) (zM w f2_z j)) : zC g 7 yX11_likes cX11_likes 2 (some .int) [.ref X, .int x] (zM w f j) (1, 6) Q QX := by
  refine zC_of G (by decide +kernel) (Nat.le_of_ble_eq_true rfl) ?_
  have ht0 := ht
  obtain ⟨nq, pp, g0, p0, hnq, hna0, hpp, hctb, hpast, hwf⟩ := ht0
  have hna1 := hna0
  obtain ⟨hna, hcn, ⟨hz1, hz2, hz3⟩, hl1, hl2, hl3⟩ := hna0
  have hmo := hctb.2.2.1
  have hn6 : tbC T ≤ 6 := hwf.2.1
  have hg4 : tbG T ≤ 4 := hwf.2.2.1
  have hwm := hwf.2.2.2.2.2.2.2.1
  have hrt := wfT_rch hwf
  have hfl : (f (X + 11 + 7) 2).toInt = (T.2.2.1.2.length : Nat) := by rw [hmo.1]; have := hmo.2.1; exact zi_n (by omega)
  have hcells : (f nq 1).toInt = (tbC T : Nat) := by rw [hcn.2.1]; exact zi_n (n := tbC T) (by omega)
  have hgs : (f nq 2).toInt = (tbG T : Nat) := by rw [hcn.2.2.1]; exact zi_n (n := tbG T) (by omega)
  refine r_iload1 dX11_likes_0 ?_
  refine t_iflt (t := 18) dX11_likes_1 (by decide) (fun h1 => ?_) (fun h1 => ?_)
  · refine r_throwNE (List.mem_of_getElem? (i := 8) rfl) dX11_likes_18 dX11_likes_21 dX11_likes_22 dX11_likes_24 dX11_likes_27 (Nat.le_of_ble_eq_true rfl) (Nat.le_of_ble_eq_true rfl) (Nat.le_of_ble_eq_true rfl) (Nat.le_of_ble_eq_true rfl) ?_
    exact hXNE (by omega)
  · refine r_iload1 dX11_likes_4 ?_
    refine r_aloadR0 dX11_likes_5 ?_
    refine m_getR (q := (X + 11)) zf_RX11_33 rfl dX11_likes_6 (shX_k hx) (shX_p5 hx) ?_
    refine m_getR (q := nq) zf_RX11_181 rfl dX11_likes_9 (shTb_k (shX_tb hx)) hnq ?_
    refine m_getV (x := (f nq 2)) zf_RX11_209 rfl dX11_likes_12 (shNa_k hna) (rfl) ?_
    refine t_iclt (t := 28) dX11_likes_15 (by decide) (fun h15 => ?_) (fun h15 => ?_)
    · refine r_aloadR0 dX11_likes_28 ?_
      refine q_callV0 zm_RX11_198 dX11_likes_29 (shX_k hx) (by decide) rfl (Nat.le_of_ble_eq_true rfl) (Nat.le_of_ble_eq_true rfl) (Nat.le_of_ble_eq_true rfl) (Nat.le_of_ble_eq_true rfl) (Nat.le_of_ble_eq_true rfl) (s_X11_viewNow G hx ht (fun f1_z ho1 hv1 => ?_))
      have ht1 := tbAt_Q ht (frS_Q ho1)
      have hl5 := hmo.2.1
      refine r_aloadR0 dX11_likes_32 ?_
      refine r_iload1 dX11_likes_33 ?_
      refine q_callV1 zm_RX11_214 dX11_likes_34 (shX_k hx) (by decide) rfl (Nat.le_of_ble_eq_true rfl) (Nat.le_of_ble_eq_true rfl) (Nat.le_of_ble_eq_true rfl) (Nat.le_of_ble_eq_true rfl) (Nat.le_of_ble_eq_true rfl) (s_X11_likingInView (L := tbL T) (d := T.2.2.1.2.length) (gu := x.toInt.toNat) G hx ht1 hv1 hrt (by omega) (by omega) (by omega) (fun r34 f2_z e34 ho2 hk2 => ?_))
      refine r_iret dX11_likes_37 rfl (Nat.le_of_ble_eq_true rfl) (Nat.le_of_ble_eq_true rfl) ?_
      exact hQ (by omega) _ f2_z e34 (qX_S (frS_tr ho1 (frS_R ho2 (by omega))))
    · refine r_throwNE (List.mem_of_getElem? (i := 8) rfl) dX11_likes_18 dX11_likes_21 dX11_likes_22 dX11_likes_24 dX11_likes_27 (Nat.le_of_ble_eq_true rfl) (Nat.le_of_ble_eq_true rfl) (Nat.le_of_ble_eq_true rfl) (Nat.le_of_ble_eq_true rfl) ?_
      exact hXNE (by omega)
set_option maxHeartbeats 4000000 in
set_option maxRecDepth 100000 in
theorem s_X11_layWith {g : zGT} {w : zW} {f : Nat → Nat → Int32} {j : Nat → Nat → Int64} {X : Nat} {T : zTb} {x : Int32} {Q : Option Value → zW → Prop} {QX : String → zW → Prop} (G : zGok g) (hx : shX w X) (ht : tbAt w f X (X + 11) T) (hXNE : ¬ (0 ≤ x.toInt ∧ x.toInt < ((tbL T).length : Nat)) → ∀ f2_z, qX X f f2_z → ∀ n, zS w ≤ n → QX "java/util/NoSuchElementException" (zsS (zM w f2_z j) n)) (hQ : (0 ≤ x.toInt ∧ x.toInt < ((tbL T).length : Nat)) → ∀ f2_z, ofR f f2_z (X + 93) 8 → ctLay f2_z (X + 93) (tbL T) [] → Q (some (.ref (X + 93))) (zM w f2_z j)) : zC g 7 yX11_layWith cX11_layWith 3 (some (.object "NapkinDeeds$Lay")) [.ref X, .int x] (zM w f j) (1, 6) Q QX := by
  refine zC_of G (by decide +kernel) (Nat.le_of_ble_eq_true rfl) ?_
  have ht0 := ht
  obtain ⟨nq, pp, g0, p0, hnq, hna0, hpp, hctb, hpast, hwf⟩ := ht0
  have hna1 := hna0
  obtain ⟨hna, hcn, ⟨hz1, hz2, hz3⟩, hl1, hl2, hl3⟩ := hna0
  have hmo := hctb.2.2.1
  have hn6 : tbC T ≤ 6 := hwf.2.1
  have hg4 : tbG T ≤ 4 := hwf.2.2.1
  have hwm := hwf.2.2.2.2.2.2.2.1
  have hrt := wfT_rch hwf
  have hfl : (f (X + 11 + 7) 2).toInt = (T.2.2.1.2.length : Nat) := by rw [hmo.1]; have := hmo.2.1; exact zi_n (by omega)
  have hcells : (f nq 1).toInt = (tbC T : Nat) := by rw [hcn.2.1]; exact zi_n (n := tbC T) (by omega)
  have hgs : (f nq 2).toInt = (tbG T : Nat) := by rw [hcn.2.2.1]; exact zi_n (n := tbG T) (by omega)
  refine r_aloadR0 dX11_layWith_0 ?_
  refine q_callV0 zm_RX11_134 dX11_layWith_1 (shX_k hx) (by decide) rfl (Nat.le_of_ble_eq_true rfl) (Nat.le_of_ble_eq_true rfl) (Nat.le_of_ble_eq_true rfl) (Nat.le_of_ble_eq_true rfl) (Nat.le_of_ble_eq_true rfl) (s_X11_layNow G hx ht (fun f1_z ho1 hla => ?_))
  have hw9 : (f1_z (X + 93) 4).toInt = ((tbL T).length : Nat) := by rw [hla.2.1]; have := rch_le hrt; have := (rch_cell hrt).2.2.2.2; exact zi_n (by omega)
  have hq1 : qX X f f1_z := qX_S (frS_R ho1 (by omega))
  refine r_astore2 dX11_layWith_4 rfl ?_
  refine r_iload1 dX11_layWith_5 ?_
  refine t_iflt (t := 17) dX11_layWith_6 (by decide) (fun h6 => ?_) (fun h6 => ?_)
  · refine r_throwNE (List.mem_of_getElem? (i := 4) rfl) dX11_layWith_17 dX11_layWith_20 dX11_layWith_21 dX11_layWith_23 dX11_layWith_26 (Nat.le_of_ble_eq_true rfl) (Nat.le_of_ble_eq_true rfl) (Nat.le_of_ble_eq_true rfl) (Nat.le_of_ble_eq_true rfl) ?_
    exact hXNE (by omega) f1_z hq1
  · refine r_iload1 dX11_layWith_9 ?_
    refine r_aloadR2 dX11_layWith_10 ?_
    refine m_getV (x := (f1_z (X + 93) 4)) zf_RX11_217 rfl dX11_layWith_11 (shLay_k (shX_ly hx)) (rfl) ?_
    refine t_iclt (t := 27) dX11_layWith_14 (by decide) (fun h14 => ?_) (fun h14 => ?_)
    · refine r_aloadR2 dX11_layWith_27 ?_
      refine r_aret dX11_layWith_28 rfl (by first | exact Or.inl ⟨_, rfl⟩ | exact Or.inr ⟨_, rfl⟩) (by first | exact zrf_r | exact zrf_o | exact zrf_n) (Nat.le_of_ble_eq_true rfl) (Nat.le_of_ble_eq_true rfl) ?_
      exact hQ (by omega) f1_z ho1 hla
    · refine r_throwNE (List.mem_of_getElem? (i := 4) rfl) dX11_layWith_17 dX11_layWith_20 dX11_layWith_21 dX11_layWith_23 dX11_layWith_26 (Nat.le_of_ble_eq_true rfl) (Nat.le_of_ble_eq_true rfl) (Nat.le_of_ble_eq_true rfl) (Nat.le_of_ble_eq_true rfl) ?_
      exact hXNE (by omega) f1_z hq1
set_option maxHeartbeats 4000000 in
set_option maxRecDepth 100000 in
theorem s_X11_high {g : zGT} {w : zW} {f : Nat → Nat → Int32} {j : Nat → Nat → Int64} {X : Nat} {T : zTb} {x : Int32} {Q : Option Value → zW → Prop} {QX : String → zW → Prop} (G : zGok g) (hx : shX w X) (ht : tbAt w f X (X + 11) T) (hXNE : ¬ (0 ≤ x.toInt ∧ x.toInt < ((tbL T).length : Nat)) → ∀ f2_z, qX X f f2_z → ∀ n, zS w ≤ n → QX "java/util/NoSuchElementException" (zsS (zM w f2_z j) n)) (hQ : (0 ≤ x.toInt ∧ x.toInt < ((tbL T).length : Nat)) → ∀ (r : Int32) f2_z, r.toInt = ((zcol (tbL T) x.toInt).length : Nat) → qX X f f2_z → Q (some (.int r)) (zM w f2_z j)) : zC g 8 yX11_high cX11_high 2 (some .int) [.ref X, .int x] (zM w f j) (1, 6) Q QX := by
  refine zC_of G (by decide +kernel) (Nat.le_of_ble_eq_true rfl) ?_
  have ht0 := ht
  obtain ⟨nq, pp, g0, p0, hnq, hna0, hpp, hctb, hpast, hwf⟩ := ht0
  have hna1 := hna0
  obtain ⟨hna, hcn, ⟨hz1, hz2, hz3⟩, hl1, hl2, hl3⟩ := hna0
  have hmo := hctb.2.2.1
  have hn6 : tbC T ≤ 6 := hwf.2.1
  have hg4 : tbG T ≤ 4 := hwf.2.2.1
  have hwm := hwf.2.2.2.2.2.2.2.1
  have hrt := wfT_rch hwf
  have hfl : (f (X + 11 + 7) 2).toInt = (T.2.2.1.2.length : Nat) := by rw [hmo.1]; have := hmo.2.1; exact zi_n (by omega)
  have hcells : (f nq 1).toInt = (tbC T : Nat) := by rw [hcn.2.1]; exact zi_n (n := tbC T) (by omega)
  have hgs : (f nq 2).toInt = (tbG T : Nat) := by rw [hcn.2.2.1]; exact zi_n (n := tbG T) (by omega)
  refine r_aloadR0 dX11_high_0 ?_
  refine r_iload1 dX11_high_1 ?_
  refine q_callV1 zm_RX11_159 dX11_high_2 (shX_k hx) (by decide) rfl (Nat.le_of_ble_eq_true rfl) (Nat.le_of_ble_eq_true rfl) (Nat.le_of_ble_eq_true rfl) (Nat.le_of_ble_eq_true rfl) (Nat.le_of_ble_eq_true rfl) (s_X11_layWith G hx ht (fun hc9 g9 hq9 n hn => x_out (hXNE hc9 g9 hq9 n hn) (Nat.le_of_ble_eq_true rfl) (Nat.le_of_ble_eq_true rfl)) (fun hok f1_z ho1 hla => ?_))
  have hq1 : qX X f f1_z := qX_S (frS_R ho1 (by omega))
  have hcell := rch_cell hrt
  have hxk : x.toInt = (x.toInt.toNat : Nat) := by omega
  obtain ⟨C, p, k1_z, k2_z, k3_z, k4_z, q, D, k5_z, k6_z⟩ := col_ne hrt (c := x.toInt.toNat) (by omega)
  rw [← hxk] at k1_z k2_z k3_z k5_z
  refine r_iload1 dX11_high_5 ?_
  refine q_callV1 zm_RX11_163 dX11_high_6 (shLay_k (shX_ly hx)) (by decide) rfl (Nat.le_of_ble_eq_true rfl) (Nat.le_of_ble_eq_true rfl) (Nat.le_of_ble_eq_true rfl) (Nat.le_of_ble_eq_true rfl) (Nat.le_of_ble_eq_true rfl) (s_X2_heightOf (w := zM w f1_z j) G (shX_ly hx) hla (fun r6 e6_z => ?_))
  refine r_iret dX11_high_9 rfl (Nat.le_of_ble_eq_true rfl) (Nat.le_of_ble_eq_true rfl) ?_
  refine hQ hok _ f1_z ?_ hq1
  rw [e6_z, zht (by rw [hcell.1]; exact hn6)]
  exact zi_n (by have := zcol_le (L := tbL T) (c := x.toInt) (by rw [hcell.1]; exact hn6); omega)
set_option maxHeartbeats 4000000 in
set_option maxRecDepth 100000 in
theorem s_X11_above {g : zGT} {w : zW} {f : Nat → Nat → Int32} {j : Nat → Nat → Int64} {X : Nat} {T : zTb} {x : Int32} {Q : Option Value → zW → Prop} {QX : String → zW → Prop} (G : zGok g) (hx : shX w X) (ht : tbAt w f X (X + 11) T) (hXNE : ¬ (0 ≤ x.toInt ∧ x.toInt < ((tbL T).length : Nat)) → ∀ f2_z, qX X f f2_z → ∀ n, zS w ≤ n → QX "java/util/NoSuchElementException" (zsS (zM w f2_z j) n)) (hQ : (0 ≤ x.toInt ∧ x.toInt < ((tbL T).length : Nat)) → ∀ (r : Int32) f2_z, r.toInt = (seenA T.2.2.1.1 (tbL T) x.toInt.toNat : Nat) → qX X f f2_z → Q (some (.int r)) (zM w f2_z j)) : zC g 8 yX11_above cX11_above 2 (some .int) [.ref X, .int x] (zM w f j) (1, 6) Q QX := by
  refine zC_of G (by decide +kernel) (Nat.le_of_ble_eq_true rfl) ?_
  have ht0 := ht
  obtain ⟨nq, pp, g0, p0, hnq, hna0, hpp, hctb, hpast, hwf⟩ := ht0
  have hna1 := hna0
  obtain ⟨hna, hcn, ⟨hz1, hz2, hz3⟩, hl1, hl2, hl3⟩ := hna0
  have hmo := hctb.2.2.1
  have hn6 : tbC T ≤ 6 := hwf.2.1
  have hg4 : tbG T ≤ 4 := hwf.2.2.1
  have hwm := hwf.2.2.2.2.2.2.2.1
  have hrt := wfT_rch hwf
  have hfl : (f (X + 11 + 7) 2).toInt = (T.2.2.1.2.length : Nat) := by rw [hmo.1]; have := hmo.2.1; exact zi_n (by omega)
  have hcells : (f nq 1).toInt = (tbC T : Nat) := by rw [hcn.2.1]; exact zi_n (n := tbC T) (by omega)
  have hgs : (f nq 2).toInt = (tbG T : Nat) := by rw [hcn.2.2.1]; exact zi_n (n := tbG T) (by omega)
  refine r_aloadR0 dX11_above_0 ?_
  refine r_iload1 dX11_above_1 ?_
  refine q_callV1 zm_RX11_159 dX11_above_2 (shX_k hx) (by decide) rfl (Nat.le_of_ble_eq_true rfl) (Nat.le_of_ble_eq_true rfl) (Nat.le_of_ble_eq_true rfl) (Nat.le_of_ble_eq_true rfl) (Nat.le_of_ble_eq_true rfl) (s_X11_layWith G hx ht (fun hc9 g9 hq9 n hn => x_out (hXNE hc9 g9 hq9 n hn) (Nat.le_of_ble_eq_true rfl) (Nat.le_of_ble_eq_true rfl)) (fun hok f1_z ho1 hla => ?_))
  have hq1 : qX X f f1_z := qX_S (frS_R ho1 (by omega))
  have hcell := rch_cell hrt
  have hxk : x.toInt = (x.toInt.toNat : Nat) := by omega
  obtain ⟨C, p, k1_z, k2_z, k3_z, k4_z, q, D, k5_z, k6_z⟩ := col_ne hrt (c := x.toInt.toNat) (by omega)
  rw [← hxk] at k1_z k2_z k3_z k5_z
  refine r_iload1 dX11_above_5 ?_
  refine r_aloadR0 dX11_above_6 ?_
  refine m_getR (q := (X + 11)) zf_RX11_33 rfl dX11_above_7 (shX_k hx) (shX_p5 hx) ?_
  refine m_getR (q := ((X + 11) + 7)) zf_RX11_138 rfl dX11_above_10 (shTb_k (shX_tb hx)) (shTb_p1 (shX_tb hx)) ?_
  refine m_getR (q := (((X + 11) + 7) + 1)) zf_RX11_171 rfl dX11_above_13 (shMo_k (shTb_mo (shX_tb hx))) (shMo_p0 (shTb_mo (shX_tb hx))) ?_
  obtain ⟨col, hcol⟩ : ∃ col, (tbL T)[x.toInt.toNat]? = some col := ⟨_, List.getElem?_eq_getElem (by omega)⟩
  have hzc := zcol_at hcol
  rw [← hxk] at hzc
  have hcc : (tbL T)[x.toInt.toNat]? = some (C ++ [p]) := by rw [hcol, ← hzc, k1_z]
  have hmo1 : ctMo f1_z (X + 11 + 7) T.2.2.1 := ctMo_R hmo ho1 (by omega)
  refine q_callV2 zm_RX11_174 dX11_above_16 (shLay_k (shX_ly hx)) (by decide) rfl (Nat.le_of_ble_eq_true rfl) (Nat.le_of_ble_eq_true rfl) (Nat.le_of_ble_eq_true rfl) (Nat.le_of_ble_eq_true rfl) (Nat.le_of_ble_eq_true rfl) (s_X2_markAbove (w := zM w f1_z j) (C := C) (p := p) G (shX_ly hx) hla (rch_bd hrt) hcc (zi_of hxk (by omega)) (shMo_k1 (shTb_mo (shX_tb hx))) (shMo_n1 (shTb_mo (shX_tb hx))) (fun r16 e16_z => ?_))
  refine r_iret dX11_above_19 rfl (Nat.le_of_ble_eq_true rfl) (Nat.le_of_ble_eq_true rfl) ?_
  refine hQ hok _ f1_z ?_ hq1
  have hsa : seenA T.2.2.1.1 (tbL T) x.toInt.toNat = mkAb T.2.2.1.1 p := seenA_of (by rw [← hxk]; exact k1_z)
  rw [hsa, e16_z]
  exact moRow hmo1 hwm.2.2 _ (by split <;> omega)
set_option maxHeartbeats 4000000 in
set_option maxRecDepth 100000 in
theorem s_X11_beneath {g : zGT} {w : zW} {f : Nat → Nat → Int32} {j : Nat → Nat → Int64} {X : Nat} {T : zTb} {x : Int32} {Q : Option Value → zW → Prop} {QX : String → zW → Prop} (G : zGok g) (hx : shX w X) (ht : tbAt w f X (X + 11) T) (hXNE : ¬ (0 ≤ x.toInt ∧ x.toInt < ((tbL T).length : Nat)) → ∀ f2_z, qX X f f2_z → ∀ n, zS w ≤ n → QX "java/util/NoSuchElementException" (zsS (zM w f2_z j) n)) (hQ : (0 ≤ x.toInt ∧ x.toInt < ((tbL T).length : Nat)) → ∀ (r : Int32) f2_z, r.toInt = (seenB T.2.2.1.1 (tbL T) x.toInt.toNat : Nat) → qX X f f2_z → Q (some (.int r)) (zM w f2_z j)) : zC g 8 yX11_beneath cX11_beneath 2 (some .int) [.ref X, .int x] (zM w f j) (1, 6) Q QX := by
  refine zC_of G (by decide +kernel) (Nat.le_of_ble_eq_true rfl) ?_
  have ht0 := ht
  obtain ⟨nq, pp, g0, p0, hnq, hna0, hpp, hctb, hpast, hwf⟩ := ht0
  have hna1 := hna0
  obtain ⟨hna, hcn, ⟨hz1, hz2, hz3⟩, hl1, hl2, hl3⟩ := hna0
  have hmo := hctb.2.2.1
  have hn6 : tbC T ≤ 6 := hwf.2.1
  have hg4 : tbG T ≤ 4 := hwf.2.2.1
  have hwm := hwf.2.2.2.2.2.2.2.1
  have hrt := wfT_rch hwf
  have hfl : (f (X + 11 + 7) 2).toInt = (T.2.2.1.2.length : Nat) := by rw [hmo.1]; have := hmo.2.1; exact zi_n (by omega)
  have hcells : (f nq 1).toInt = (tbC T : Nat) := by rw [hcn.2.1]; exact zi_n (n := tbC T) (by omega)
  have hgs : (f nq 2).toInt = (tbG T : Nat) := by rw [hcn.2.2.1]; exact zi_n (n := tbG T) (by omega)
  refine r_aloadR0 dX11_beneath_0 ?_
  refine r_iload1 dX11_beneath_1 ?_
  refine q_callV1 zm_RX11_159 dX11_beneath_2 (shX_k hx) (by decide) rfl (Nat.le_of_ble_eq_true rfl) (Nat.le_of_ble_eq_true rfl) (Nat.le_of_ble_eq_true rfl) (Nat.le_of_ble_eq_true rfl) (Nat.le_of_ble_eq_true rfl) (s_X11_layWith G hx ht (fun hc9 g9 hq9 n hn => x_out (hXNE hc9 g9 hq9 n hn) (Nat.le_of_ble_eq_true rfl) (Nat.le_of_ble_eq_true rfl)) (fun hok f1_z ho1 hla => ?_))
  have hq1 : qX X f f1_z := qX_S (frS_R ho1 (by omega))
  have hcell := rch_cell hrt
  have hxk : x.toInt = (x.toInt.toNat : Nat) := by omega
  obtain ⟨C, p, k1_z, k2_z, k3_z, k4_z, q, D, k5_z, k6_z⟩ := col_ne hrt (c := x.toInt.toNat) (by omega)
  rw [← hxk] at k1_z k2_z k3_z k5_z
  refine r_iload1 dX11_beneath_5 ?_
  refine r_aloadR0 dX11_beneath_6 ?_
  refine m_getR (q := (X + 11)) zf_RX11_33 rfl dX11_beneath_7 (shX_k hx) (shX_p5 hx) ?_
  refine m_getR (q := ((X + 11) + 7)) zf_RX11_138 rfl dX11_beneath_10 (shTb_k (shX_tb hx)) (shTb_p1 (shX_tb hx)) ?_
  refine m_getR (q := (((X + 11) + 7) + 1)) zf_RX11_171 rfl dX11_beneath_13 (shMo_k (shTb_mo (shX_tb hx))) (shMo_p0 (shTb_mo (shX_tb hx))) ?_
  obtain ⟨col, hcol⟩ : ∃ col, (tbL T)[x.toInt.toNat]? = some col := ⟨_, List.getElem?_eq_getElem (by omega)⟩
  have hzc := zcol_at hcol
  rw [← hxk] at hzc
  have hcc : (tbL T)[x.toInt.toNat]? = some (q :: D) := by rw [hcol, ← hzc, k5_z]
  have hmo1 : ctMo f1_z (X + 11 + 7) T.2.2.1 := ctMo_R hmo ho1 (by omega)
  refine q_callV2 zm_RX11_178 dX11_beneath_16 (shLay_k (shX_ly hx)) (by decide) rfl (Nat.le_of_ble_eq_true rfl) (Nat.le_of_ble_eq_true rfl) (Nat.le_of_ble_eq_true rfl) (Nat.le_of_ble_eq_true rfl) (Nat.le_of_ble_eq_true rfl) (s_X2_markBeneath (w := zM w f1_z j) (C := D) (p := q) G (shX_ly hx) hla (rch_bd hrt) hcc (zi_of hxk (by omega)) (shMo_k1 (shTb_mo (shX_tb hx))) (shMo_n1 (shTb_mo (shX_tb hx))) (fun r16 e16_z => ?_))
  refine r_iret dX11_beneath_19 rfl (Nat.le_of_ble_eq_true rfl) (Nat.le_of_ble_eq_true rfl) ?_
  refine hQ hok _ f1_z ?_ hq1
  have hsa : seenB T.2.2.1.1 (tbL T) x.toInt.toNat = mkBe T.2.2.1.1 q := seenB_of (by rw [← hxk]; exact k5_z)
  rw [hsa, e16_z]
  exact moRow hmo1 hwm.2.2 _ (by split <;> omega)
def layI (L : zLy) (c : Int) (k : Int) : Int := match (zcol L c)[k.toNat]? with
  | some p => ((p.1 : Nat) : Int)
  | none => -1
theorem zst_at {L : zLy} {c : Nat} (h_z : c < L.length) : zst L (c : Nat) = lyP L c := by
  unfold zst
  by_cases h0 : 1 ≤ (c : Int) ∧ (c : Int) < (L.length : Nat)
  · rw [if_pos h0, Int.toNat_natCast]
  · rw [if_neg h0, show c = 0 by omega, lyP_0]
set_option maxHeartbeats 4000000 in
set_option maxRecDepth 100000 in
theorem s_X11_layer {g : zGT} {w : zW} {f : Nat → Nat → Int32} {j : Nat → Nat → Int64} {X : Nat} {T : zTb} {x y : Int32} {Q : Option Value → zW → Prop} {QX : String → zW → Prop} (G : zGok g) (hx : shX w X) (ht : tbAt w f X (X + 11) T) (hXNE : ¬ (0 ≤ x.toInt ∧ x.toInt < ((tbL T).length : Nat)) → ∀ f2_z, qX X f f2_z → ∀ n, zS w ≤ n → QX "java/util/NoSuchElementException" (zsS (zM w f2_z j) n)) (hXIA : y.toInt < 0 → ∀ f2_z, qX X f f2_z → ∀ n, zS w ≤ n → QX "java/lang/IllegalArgumentException" (zsS (zM w f2_z j) n)) (hQ : (0 ≤ x.toInt ∧ x.toInt < ((tbL T).length : Nat)) → 0 ≤ y.toInt → ∀ (r : Int32) f2_z, r.toInt = layI (tbL T) x.toInt y.toInt → qX X f f2_z → Q (some (.int r)) (zM w f2_z j)) : zC g 8 yX11_layer cX11_layer 4 (some .int) [.ref X, .int x, .int y] (zM w f j) (2, 12) Q QX := by
  refine zC_of G (by decide +kernel) (Nat.le_of_ble_eq_true rfl) ?_
  have ht0 := ht
  obtain ⟨nq, pp, g0, p0, hnq, hna0, hpp, hctb, hpast, hwf⟩ := ht0
  have hna1 := hna0
  obtain ⟨hna, hcn, ⟨hz1, hz2, hz3⟩, hl1, hl2, hl3⟩ := hna0
  have hmo := hctb.2.2.1
  have hn6 : tbC T ≤ 6 := hwf.2.1
  have hg4 : tbG T ≤ 4 := hwf.2.2.1
  have hwm := hwf.2.2.2.2.2.2.2.1
  have hrt := wfT_rch hwf
  have hfl : (f (X + 11 + 7) 2).toInt = (T.2.2.1.2.length : Nat) := by rw [hmo.1]; have := hmo.2.1; exact zi_n (by omega)
  have hcells : (f nq 1).toInt = (tbC T : Nat) := by rw [hcn.2.1]; exact zi_n (n := tbC T) (by omega)
  have hgs : (f nq 2).toInt = (tbG T : Nat) := by rw [hcn.2.2.1]; exact zi_n (n := tbG T) (by omega)
  refine r_aloadR0 dX11_layer_0 ?_
  refine r_iload1 dX11_layer_1 ?_
  refine q_callV1 zm_RX11_159 dX11_layer_2 (shX_k hx) (by decide) rfl (Nat.le_of_ble_eq_true rfl) (Nat.le_of_ble_eq_true rfl) (Nat.le_of_ble_eq_true rfl) (Nat.le_of_ble_eq_true rfl) (Nat.le_of_ble_eq_true rfl) (s_X11_layWith G hx ht (fun hc9 g9 hq9 n hn => x_out (hXNE hc9 g9 hq9 n hn) (Nat.le_of_ble_eq_true rfl) (Nat.le_of_ble_eq_true rfl)) (fun hok f1_z ho1 hla => ?_))
  have hq1 : qX X f f1_z := qX_S (frS_R ho1 (by omega))
  have hcell := rch_cell hrt
  have hxk : x.toInt = (x.toInt.toNat : Nat) := by omega
  obtain ⟨C, p, k1_z, k2_z, k3_z, k4_z, q, D, k5_z, k6_z⟩ := col_ne hrt (c := x.toInt.toNat) (by omega)
  rw [← hxk] at k1_z k2_z k3_z k5_z
  refine r_astore3 dX11_layer_5 rfl ?_
  refine r_iload2 dX11_layer_6 ?_
  refine t_ifge (t := 20) dX11_layer_7 (by decide) (fun h7 => ?_) (fun h7 => ?_)
  · refine r_iload2 dX11_layer_20 ?_
    refine r_aloadR3 dX11_layer_21 ?_
    refine r_iload1 dX11_layer_22 ?_
    refine q_callV1 zm_RX11_163 dX11_layer_23 (shLay_k (shX_ly hx)) (by decide) rfl (Nat.le_of_ble_eq_true rfl) (Nat.le_of_ble_eq_true rfl) (Nat.le_of_ble_eq_true rfl) (Nat.le_of_ble_eq_true rfl) (Nat.le_of_ble_eq_true rfl) (s_X2_heightOf (w := zM w f1_z j) G (shX_ly hx) hla (fun r23 e23_z => ?_))
    have hz6 := zcol_le (L := tbL T) (c := x.toInt) (by rw [hcell.1]; exact hn6)
    have h23v : r23.toInt = ((zcol (tbL T) x.toInt).length : Nat) := by rw [e23_z, zht (by rw [hcell.1]; exact hn6)]; exact zi_n (by omega)
    refine t_icge (t := 43) dX11_layer_26 (by decide) (fun h26 => ?_) (fun h26 => ?_)
    · refine n_iconst dX11_layer_43 (by decide) (fun r43 e43 => ?_)
      refine r_iret dX11_layer_44 rfl (Nat.le_of_ble_eq_true rfl) (Nat.le_of_ble_eq_true rfl) ?_
      first
        | (refine hQ hok (by omega) _ f1_z ?_ hq1; unfold layI; rw [hu, e37]; exact zi_n (by omega))
        | (refine hQ hok (by omega) _ f1_z ?_ hq1; unfold layI; rw [List.getElem?_eq_none (by omega)]; show _ = (-1 : Int); omega)
    · obtain ⟨u, hu⟩ : ∃ u, (zcol (tbL T) x.toInt)[y.toInt.toNat]? = some u := ⟨_, List.getElem?_eq_getElem (by omega)⟩
      have hu2 : ((tbL T).flatten ++ [])[zst (tbL T) x.toInt + y.toInt.toNat]? = some u := by rw [List.append_nil, zcol_get (by omega)]; exact hu
      have hu6 := rch_bd hrt u (zcol_mem (List.mem_of_getElem? hu))
      refine r_aloadR3 dX11_layer_29 ?_
      refine r_aloadR3 dX11_layer_30 ?_
      refine r_iload1 dX11_layer_31 ?_
      refine q_callV1 zm_RX11_152 dX11_layer_32 (shLay_k (shX_ly hx)) (by decide) rfl (Nat.le_of_ble_eq_true rfl) (Nat.le_of_ble_eq_true rfl) (Nat.le_of_ble_eq_true rfl) (Nat.le_of_ble_eq_true rfl) (Nat.le_of_ble_eq_true rfl) (s_X2_startOf (w := zM w f1_z j) G (shX_ly hx) hla (fun r32 e32 => ?_))
      have hzb := zcol_bnd (L := tbL T) (c := x.toInt)
      rw [hcell.1] at hzb
      have h32v : r32.toInt = (zst (tbL T) x.toInt : Nat) := by rw [e32]; exact zi_n (by omega)
      refine r_iload2 dX11_layer_35 ?_
      refine n_iadd dX11_layer_36 (by omega) (fun r36 e36 => ?_)
      refine q_callV1 zm_RX11_168 dX11_layer_37 (shLay_k (shX_ly hx)) (by decide) rfl (Nat.le_of_ble_eq_true rfl) (Nat.le_of_ble_eq_true rfl) (Nat.le_of_ble_eq_true rfl) (Nat.le_of_ble_eq_true rfl) (Nat.le_of_ble_eq_true rfl) (s_X2_cellAt (w := zM w f1_z j) (i := zst (tbL T) x.toInt + y.toInt.toNat) (p := u) G (shX_ly hx) hla hu2 (zi_of (by omega) (by omega)) (fun r37 e37 => ?_))
      refine r_goto (t := 44) dX11_layer_40 (by decide) ?_
      refine r_iret dX11_layer_44 rfl (Nat.le_of_ble_eq_true rfl) (Nat.le_of_ble_eq_true rfl) ?_
      first
        | (refine hQ hok (by omega) _ f1_z ?_ hq1; unfold layI; rw [hu, e37]; exact zi_n (by omega))
        | (refine hQ hok (by omega) _ f1_z ?_ hq1; unfold layI; rw [List.getElem?_eq_none (by omega)]; show _ = (-1 : Int); omega)
  · refine r_throw zth_IA (List.mem_of_getElem? (i := 5) rfl) dX11_layer_10 dX11_layer_13 dX11_layer_14 dX11_layer_16 dX11_layer_19 (Nat.le_of_ble_eq_true rfl) (Nat.le_of_ble_eq_true rfl) (Nat.le_of_ble_eq_true rfl) (Nat.le_of_ble_eq_true rfl) ?_
    exact hXIA (by omega) f1_z hq1
set_option maxHeartbeats 4000000 in
set_option maxRecDepth 100000 in
theorem s_X11_crease {g : zGT} {w : zW} {f : Nat → Nat → Int32} {j : Nat → Nat → Int64} {X : Nat} {T : zTb} {x : Int32} {Q : Option Value → zW → Prop} {QX : String → zW → Prop} (G : zGok g) (hx : shX w X) (ht : tbAt w f X (X + 11) T) (hXNE : ¬ (0 ≤ x.toInt ∧ x.toInt + 1 < (tbC T : Nat)) → ∀ n, zS w ≤ n → QX "java/util/NoSuchElementException" (zsS (zM w f j) n)) (hQ : (0 ≤ x.toInt ∧ x.toInt + 1 < (tbC T : Nat)) → ∀ (r : Int32) f2_z, r.toInt = (lyCrease (tbL T) x.toInt.toNat : Nat) → qX X f f2_z → Q (some (.int r)) (zM w f2_z j)) : zC g 7 yX11_crease cX11_crease 2 (some .int) [.ref X, .int x] (zM w f j) (1, 6) Q QX := by
  refine zC_of G (by decide +kernel) (Nat.le_of_ble_eq_true rfl) ?_
  have ht0 := ht
  obtain ⟨nq, pp, g0, p0, hnq, hna0, hpp, hctb, hpast, hwf⟩ := ht0
  have hna1 := hna0
  obtain ⟨hna, hcn, ⟨hz1, hz2, hz3⟩, hl1, hl2, hl3⟩ := hna0
  have hmo := hctb.2.2.1
  have hn6 : tbC T ≤ 6 := hwf.2.1
  have hg4 : tbG T ≤ 4 := hwf.2.2.1
  have hwm := hwf.2.2.2.2.2.2.2.1
  have hrt := wfT_rch hwf
  have hfl : (f (X + 11 + 7) 2).toInt = (T.2.2.1.2.length : Nat) := by rw [hmo.1]; have := hmo.2.1; exact zi_n (by omega)
  have hcells : (f nq 1).toInt = (tbC T : Nat) := by rw [hcn.2.1]; exact zi_n (n := tbC T) (by omega)
  have hgs : (f nq 2).toInt = (tbG T : Nat) := by rw [hcn.2.2.1]; exact zi_n (n := tbG T) (by omega)
  refine r_iload1 dX11_crease_0 ?_
  refine t_iflt (t := 20) dX11_crease_1 (by decide) (fun h1 => ?_) (fun h1 => ?_)
  · refine r_throwNE (List.mem_of_getElem? (i := 6) rfl) dX11_crease_20 dX11_crease_23 dX11_crease_24 dX11_crease_26 dX11_crease_29 (Nat.le_of_ble_eq_true rfl) (Nat.le_of_ble_eq_true rfl) (Nat.le_of_ble_eq_true rfl) (Nat.le_of_ble_eq_true rfl) ?_
    exact hXNE (by omega)
  · refine r_iload1 dX11_crease_4 ?_
    refine r_aloadR0 dX11_crease_5 ?_
    refine m_getR (q := (X + 11)) zf_RX11_33 rfl dX11_crease_6 (shX_k hx) (shX_p5 hx) ?_
    refine m_getR (q := nq) zf_RX11_181 rfl dX11_crease_9 (shTb_k (shX_tb hx)) hnq ?_
    refine m_getV (x := (f nq 1)) zf_RX11_185 rfl dX11_crease_12 (shNa_k hna) (rfl) ?_
    refine n_iconst dX11_crease_15 (by decide) (fun r15 e15_z => ?_)
    refine n_isub dX11_crease_16 (by omega) (fun r16 e16_z => ?_)
    refine t_iclt (t := 30) dX11_crease_17 (by decide) (fun h17 => ?_) (fun h17 => ?_)
    · refine r_aloadR0 dX11_crease_30 ?_
      refine q_callV0 zm_RX11_134 dX11_crease_31 (shX_k hx) (by decide) rfl (Nat.le_of_ble_eq_true rfl) (Nat.le_of_ble_eq_true rfl) (Nat.le_of_ble_eq_true rfl) (Nat.le_of_ble_eq_true rfl) (Nat.le_of_ble_eq_true rfl) (s_X11_layNow G hx ht (fun f1_z ho1 hla => ?_))
      have hw9 : (f1_z (X + 93) 4).toInt = ((tbL T).length : Nat) := by rw [hla.2.1]; have := rch_le hrt; have := (rch_cell hrt).2.2.2.2; exact zi_n (by omega)
      have hq1 : qX X f f1_z := qX_S (frS_R ho1 (by omega))
      refine r_iload1 dX11_crease_34 ?_
      refine q_callV1 zm_RX11_190 dX11_crease_35 (shLay_k (shX_ly hx)) (by decide) rfl (Nat.le_of_ble_eq_true rfl) (Nat.le_of_ble_eq_true rfl) (Nat.le_of_ble_eq_true rfl) (Nat.le_of_ble_eq_true rfl) (Nat.le_of_ble_eq_true rfl) (s_X2_creaseAt (w := zM w f1_z j) (k := x.toInt.toNat) (n := tbC T) G (shX_ly hx) hla (rch_bd hrt) (rch_cell hrt).2.2.1 (by omega) (by omega) (zi_of (by omega) (by omega)) (fun r35 e35 => ?_))
      refine r_iret dX11_crease_38 rfl (Nat.le_of_ble_eq_true rfl) (Nat.le_of_ble_eq_true rfl) ?_
      have := lyCrease_le (L := tbL T) (k := x.toInt.toNat)
      exact hQ (by omega) _ f1_z (by rw [e35]; exact zi_n (by omega)) hq1
    · refine r_throwNE (List.mem_of_getElem? (i := 6) rfl) dX11_crease_20 dX11_crease_23 dX11_crease_24 dX11_crease_26 dX11_crease_29 (Nat.le_of_ble_eq_true rfl) (Nat.le_of_ble_eq_true rfl) (Nat.le_of_ble_eq_true rfl) (Nat.le_of_ble_eq_true rfl) ?_
      exact hXNE (by omega)
set_option maxHeartbeats 4000000 in
set_option maxRecDepth 100000 in
theorem s_X11_folded {g : zGT} {w : zW} {f : Nat → Nat → Int32} {j : Nat → Nat → Int64} {X : Nat} {T : zTb} {x : Int32} {Q : Option Value → zW → Prop} {QX : String → zW → Prop} (G : zGok g) (hx : shX w X) (ht : tbAt w f X (X + 11) T) (hXIA : x.toInt < 0 → ∀ n, zS w ≤ n → QX "java/lang/IllegalArgumentException" (zsS (zM w f j) n)) (hQ : 0 ≤ x.toInt → ∀ r : Int32, r = moFold T.2.2.1.2 x.toInt → Q (some (.int r)) (zM w f j)) : zC g 6 yX11_folded cX11_folded 2 (some .int) [.ref X, .int x] (zM w f j) (1, 6) Q QX := by
  refine zC_of G (by decide +kernel) (Nat.le_of_ble_eq_true rfl) ?_
  have ht0 := ht
  obtain ⟨nq, pp, g0, p0, hnq, hna0, hpp, hctb, hpast, hwf⟩ := ht0
  have hna1 := hna0
  obtain ⟨hna, hcn, ⟨hz1, hz2, hz3⟩, hl1, hl2, hl3⟩ := hna0
  have hmo := hctb.2.2.1
  have hn6 : tbC T ≤ 6 := hwf.2.1
  have hg4 : tbG T ≤ 4 := hwf.2.2.1
  have hwm := hwf.2.2.2.2.2.2.2.1
  have hrt := wfT_rch hwf
  have hfl : (f (X + 11 + 7) 2).toInt = (T.2.2.1.2.length : Nat) := by rw [hmo.1]; have := hmo.2.1; exact zi_n (by omega)
  have hcells : (f nq 1).toInt = (tbC T : Nat) := by rw [hcn.2.1]; exact zi_n (n := tbC T) (by omega)
  have hgs : (f nq 2).toInt = (tbG T : Nat) := by rw [hcn.2.2.1]; exact zi_n (n := tbG T) (by omega)
  refine r_iload1 dX11_folded_0 ?_
  refine t_ifge (t := 14) dX11_folded_1 (by decide) (fun h1 => ?_) (fun h1 => ?_)
  · refine r_aloadR0 dX11_folded_14 ?_
    refine m_getR (q := (X + 11)) zf_RX11_33 rfl dX11_folded_15 (shX_k hx) (shX_p5 hx) ?_
    refine m_getR (q := ((X + 11) + 7)) zf_RX11_138 rfl dX11_folded_18 (shTb_k (shX_tb hx)) (shTb_p1 (shX_tb hx)) ?_
    refine r_iload1 dX11_folded_21 ?_
    refine q_callV1 zm_RX11_195 dX11_folded_22 (shMo_k (shTb_mo (shX_tb hx))) (by decide) rfl (Nat.le_of_ble_eq_true rfl) (Nat.le_of_ble_eq_true rfl) (Nat.le_of_ble_eq_true rfl) (Nat.le_of_ble_eq_true rfl) (Nat.le_of_ble_eq_true rfl) (s_X3_foldAt (w := zM w f j) G (shTb_mo (shX_tb hx)) hmo ?_)
    refine r_iret dX11_folded_25 rfl (Nat.le_of_ble_eq_true rfl) (Nat.le_of_ble_eq_true rfl) ?_
    exact hQ (by omega) _ rfl
  · refine r_throw zth_IA (List.mem_of_getElem? (i := 7) rfl) dX11_folded_4 dX11_folded_7 dX11_folded_8 dX11_folded_10 dX11_folded_13 (Nat.le_of_ble_eq_true rfl) (Nat.le_of_ble_eq_true rfl) (Nat.le_of_ble_eq_true rfl) (Nat.le_of_ble_eq_true rfl) ?_
    exact hXIA (by omega)
set_option maxHeartbeats 4000000 in
set_option maxRecDepth 100000 in
theorem s_X11_isCell {g : zGT} {w : zW} {f : Nat → Nat → Int32} {j : Nat → Nat → Int64} {X : Nat} {T : zTb} {c : Int64} {Q : Option Value → zW → Prop} {QX : String → zW → Prop} (G : zGok g) (hx : shX w X) (ht : tbAt w f X (X + 11) T) (hQ : ∀ r : Int32, (r.toInt = 1 ∧ (0 ≤ c.toInt ∧ c.toInt < (tbC T : Nat)) ∨ r.toInt = 0 ∧ ¬ (0 ≤ c.toInt ∧ c.toInt < (tbC T : Nat))) → Q (some (.int r)) (zM w f j)) : zC g 1 yX11_isCell cX11_isCell 3 (some .boolean) [.ref X, .long c] (zM w f j) (0, 0) Q QX := by
  refine zC_of G (by decide +kernel) (Nat.le_of_ble_eq_true rfl) ?_
  have ht0 := ht
  obtain ⟨nq, pp, g0, p0, hnq, hna0, hpp, hctb, hpast, hwf⟩ := ht0
  have hna1 := hna0
  obtain ⟨hna, hcn, ⟨hz1, hz2, hz3⟩, hl1, hl2, hl3⟩ := hna0
  have hmo := hctb.2.2.1
  have hn6 : tbC T ≤ 6 := hwf.2.1
  have hg4 : tbG T ≤ 4 := hwf.2.2.1
  have hwm := hwf.2.2.2.2.2.2.2.1
  have hrt := wfT_rch hwf
  have hfl : (f (X + 11 + 7) 2).toInt = (T.2.2.1.2.length : Nat) := by rw [hmo.1]; have := hmo.2.1; exact zi_n (by omega)
  have hcells : (f nq 1).toInt = (tbC T : Nat) := by rw [hcn.2.1]; exact zi_n (n := tbC T) (by omega)
  have hgs : (f nq 2).toInt = (tbG T : Nat) := by rw [hcn.2.2.1]; exact zi_n (n := tbG T) (by omega)
  refine r_lload1 dX11_isCell_0 ?_
  refine n_lconst (q := 0) dX11_isCell_1 rfl (by decide) (fun r1 e1_z => ?_)
  refine n_lcmp dX11_isCell_2 (fun r2 e2_z => ?_)
  unfold zcmp at e2_z
  refine t_iflt (t := 26) dX11_isCell_3 (by decide) (fun h3 => ?_) (fun h3 => ?_)
  · refine n_iconst dX11_isCell_26 (by decide) (fun r26 e26_z => ?_)
    refine m_zret dX11_isCell_27 rfl (by omega) (Nat.le_of_ble_eq_true rfl) (Nat.le_of_ble_eq_true rfl) ?_
    exact hQ _ (by omega)
  · refine r_lload1 dX11_isCell_6 ?_
    refine r_aloadR0 dX11_isCell_7 ?_
    refine m_getR (q := (X + 11)) zf_RX11_33 rfl dX11_isCell_8 (shX_k hx) (shX_p5 hx) ?_
    refine m_getR (q := nq) zf_RX11_181 rfl dX11_isCell_11 (shTb_k (shX_tb hx)) hnq ?_
    refine m_getV (x := (f nq 1)) zf_RX11_185 rfl dX11_isCell_14 (shNa_k hna) (rfl) ?_
    refine n_i2l dX11_isCell_17 (fun r17 e17_z => ?_)
    refine n_lcmp dX11_isCell_18 (fun r18 e18_z => ?_)
    unfold zcmp at e18_z
    refine t_ifge (t := 26) dX11_isCell_19 (by decide) (fun h19 => ?_) (fun h19 => ?_)
    · refine n_iconst dX11_isCell_26 (by decide) (fun r26 e26_z => ?_)
      refine m_zret dX11_isCell_27 rfl (by omega) (Nat.le_of_ble_eq_true rfl) (Nat.le_of_ble_eq_true rfl) ?_
      exact hQ _ (by omega)
    · refine n_iconst dX11_isCell_22 (by decide) (fun r22 e22_z => ?_)
      refine r_goto (t := 27) dX11_isCell_23 (by decide) ?_
      refine m_zret dX11_isCell_27 rfl (by omega) (Nat.le_of_ble_eq_true rfl) (Nat.le_of_ble_eq_true rfl) ?_
      exact hQ _ (by omega)
set_option maxHeartbeats 4000000 in
set_option maxRecDepth 100000 in
theorem s_X11_factNow {g : zGT} {w : zW} {f : Nat → Nat → Int32} {j : Nat → Nat → Int64} {X : Nat} {T : zTb} {x : Int32} {k : Nat} {Q : Option Value → zW → Prop} {QX : String → zW → Prop} (G : zGok g) (hx : shX w X) (ht : tbAt w f X (X + 11) T) (hxk : x.toInt = (k : Nat)) (hk : k < 6) (hQ : ∀ (r : Int32) f2_z, r.toInt = fctN T.2.2.1.1 (tbC T) (tbL T) T.2.2.1.2.length 0 0 k → qX X f f2_z → Q (some (.int r)) (zM w f2_z j)) : zC g 7 yX11_factNow cX11_factNow 2 (some .int) [.ref X, .int x] (zM w f j) (0, 0) Q QX := by
  refine zC_of G (by decide +kernel) (Nat.le_of_ble_eq_true rfl) ?_
  have ht0 := ht
  obtain ⟨nq, pp, g0, p0, hnq, hna0, hpp, hctb, hpast, hwf⟩ := ht0
  have hna1 := hna0
  obtain ⟨hna, hcn, ⟨hz1, hz2, hz3⟩, hl1, hl2, hl3⟩ := hna0
  have hmo := hctb.2.2.1
  have hn6 : tbC T ≤ 6 := hwf.2.1
  have hg4 : tbG T ≤ 4 := hwf.2.2.1
  have hwm := hwf.2.2.2.2.2.2.2.1
  have hrt := wfT_rch hwf
  have hfl : (f (X + 11 + 7) 2).toInt = (T.2.2.1.2.length : Nat) := by rw [hmo.1]; have := hmo.2.1; exact zi_n (by omega)
  have hcells : (f nq 1).toInt = (tbC T : Nat) := by rw [hcn.2.1]; exact zi_n (n := tbC T) (by omega)
  have hgs : (f nq 2).toInt = (tbG T : Nat) := by rw [hcn.2.2.1]; exact zi_n (n := tbG T) (by omega)
  refine r_aloadR0 dX11_factNow_0 ?_
  refine q_callV0 zm_RX11_198 dX11_factNow_1 (shX_k hx) (by decide) rfl (Nat.le_of_ble_eq_true rfl) (Nat.le_of_ble_eq_true rfl) (Nat.le_of_ble_eq_true rfl) (Nat.le_of_ble_eq_true rfl) (Nat.le_of_ble_eq_true rfl) (s_X11_viewNow G hx ht (fun f1_z ho1 hv1 => ?_))
  have ht1 := tbAt_Q ht (frS_Q ho1)
  have hl5 := hmo.2.1
  refine r_aloadR0 dX11_factNow_4 ?_
  refine m_getR (q := (X + 54)) zf_RX11_50 rfl dX11_factNow_5 (shX_k hx) (shX_p9 hx) ?_
  refine r_iload1 dX11_factNow_8 ?_
  refine q_callV1 zm_RX11_541 dX11_factNow_9 (shSc_k (shX_sc hx)) (by decide) rfl (Nat.le_of_ble_eq_true rfl) (Nat.le_of_ble_eq_true rfl) (Nat.le_of_ble_eq_true rfl) (Nat.le_of_ble_eq_true rfl) (Nat.le_of_ble_eq_true rfl) (s_X6_factAt (k := k) G (shX_sc hx) hxk (by omega) (fun r9 e9_z => ?_))
  refine r_iret dX11_factNow_12 rfl (Nat.le_of_ble_eq_true rfl) (Nat.le_of_ble_eq_true rfl) ?_
  exact hQ _ f1_z (by rw [e9_z]; exact hv1 k hk) (qX_S ho1)
