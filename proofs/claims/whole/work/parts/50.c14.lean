/-! the class: pictures; count -/
def tbK (w : zW) (f : Nat → Nat → Int32) (a : Nat) : Prop := ∃ pp M g0 p, ppOk (zP w) a pp ∧ ctTb f a pp M g0 p
theorem tbK_of {w : zW} {f : Nat → Nat → Int32} {X a : Nat} {T : zTb} (h_z : tbAt w f X a T) : tbK w f a := by
  obtain ⟨nq, pp, g0, p0, hnq, hna0, hpp, hctb, hpast, hwf⟩ := h_z
  exact ⟨pp, T.2.2.1, g0, p0, hpp, hctb⟩
theorem pic_d {X i : Nat} (hi_z : i < 3) : X + 109 + 41 * i = X + 109 ∨ X + 109 + 41 * i = X + 150 ∨ X + 109 + 41 * i = X + 191 := by omega
theorem shX_P2 {w : zW} {P2 : Nat → Nat → Option Nat} {X a : Nat} (h_z : shX w X) (ha_z : a = X + 11 ∨ a = X + 109 ∨ a = X + 150 ∨ a = X + 191) (e : ∀ q k, ¬ (q = a ∧ k = 0) → P2 q k = zP w q k) : shX (zsP w P2) X := shX_P h_z (fun q k hq => e q k (by unfold okP at hq; omega))
set_option maxHeartbeats 4000000 in
set_option maxRecDepth 100000 in
theorem s_X11_pictureAt {g : zGT} {w : zW} {f : Nat → Nat → Int32} {j : Nat → Nat → Int64} {X : Nat} {x : Int32} {Q : Option Value → zW → Prop} {QX : String → zW → Prop} (G : zGok g) (hx : shX w X) (hXNE : ¬ (0 ≤ x.toInt ∧ x.toInt < 3) → ∀ n, zS w ≤ n → QX "java/util/NoSuchElementException" (zsS (zM w f j) n)) (hQ : (0 ≤ x.toInt ∧ x.toInt < 3) → Q (some (.ref (X + 109 + 41 * x.toInt.toNat))) (zM w f j)) : zC g 6 yX11_pictureAt cX11_pictureAt 2 (some (.object "NapkinDeeds$Table")) [.ref X, .int x] (zM w f j) (1, 6) Q QX := by
  refine zC_of G (by decide +kernel) (Nat.le_of_ble_eq_true rfl) ?_
  refine r_iload1 dX11_pictureAt_0 ?_
  refine t_iflt (t := 22) dX11_pictureAt_1 (by decide) (fun h1 => ?_) (fun h1 => ?_)
  · refine r_throwWNE (List.mem_of_getElem? (i := 25) rfl) dX11_pictureAt_22 dX11_pictureAt_25 dX11_pictureAt_26 dX11_pictureAt_29 dX11_pictureAt_32 (Nat.le_of_ble_eq_true rfl) (Nat.le_of_ble_eq_true rfl) (Nat.le_of_ble_eq_true rfl) (Nat.le_of_ble_eq_true rfl) ?_
    exact hXNE (by omega)
  · refine r_iload1 dX11_pictureAt_4 ?_
    refine r_aloadR0 dX11_pictureAt_5 ?_
    refine m_getR (q := (X + 52)) zf_RX11_37 rfl dX11_pictureAt_6 (shX_k (w := w) hx) (shX_p6 hx) ?_
    refine m_alen dX11_pictureAt_9 (zge (shX_k52 hx) (by decide)) (shX_n52 hx) (by first | decide | omega) (fun r9 e9_z => ?_)
    refine t_icge (t := 22) dX11_pictureAt_10 (by decide) (fun h10 => ?_) (fun h10 => ?_)
    · refine r_throwWNE (List.mem_of_getElem? (i := 25) rfl) dX11_pictureAt_22 dX11_pictureAt_25 dX11_pictureAt_26 dX11_pictureAt_29 dX11_pictureAt_32 (Nat.le_of_ble_eq_true rfl) (Nat.le_of_ble_eq_true rfl) (Nat.le_of_ble_eq_true rfl) (Nat.le_of_ble_eq_true rfl) ?_
      exact hXNE (by omega)
    · refine r_aloadR0 dX11_pictureAt_13 ?_
      have hxk : x.toInt.toNat < 3 := by omega
      refine m_getR (q := (X + 52)) zf_RX11_37 rfl dX11_pictureAt_14 (shX_k (w := w) hx) (shX_p6 hx) ?_
      refine r_iload1 dX11_pictureAt_17 ?_
      refine m_aald (ci := 6) (k := x.toInt.toNat) (q := (X + 109 + 41 * x.toInt.toNat)) dX11_pictureAt_18 (shX_k52 hx) (shX_n52 hx) (by omega) (by omega) ((shX_pi hx hxk).2) ?_
      refine r_ifnonnull (r := some (X + 109 + 41 * x.toInt.toNat)) (t := 33) dX11_pictureAt_19 (by decide) (fun q19 h19 => ?_) (fun h19 => False.elim (absurd h19 (fun h9 => by cases h9)))
      refine r_aloadR0 dX11_pictureAt_33 ?_
      refine m_getR (q := (X + 52)) zf_RX11_37 rfl dX11_pictureAt_34 (shX_k (w := w) hx) (shX_p6 hx) ?_
      refine r_iload1 dX11_pictureAt_37 ?_
      refine m_aald (ci := 6) (k := x.toInt.toNat) (q := (X + 109 + 41 * x.toInt.toNat)) dX11_pictureAt_38 (shX_k52 hx) (shX_n52 hx) (by omega) (by omega) ((shX_pi hx hxk).2) ?_
      refine r_aret dX11_pictureAt_39 rfl (by first | exact Or.inl ⟨_, rfl⟩ | exact Or.inr ⟨_, rfl⟩) (by first | exact zrf_r | exact zrf_o | exact zrf_n) (Nat.le_of_ble_eq_true rfl) (Nat.le_of_ble_eq_true rfl) ?_
      exact hQ (by omega)
set_option maxHeartbeats 4000000 in
set_option maxRecDepth 100000 in
theorem s_X11_image {g : zGT} {w : zW} {f : Nat → Nat → Int32} {j : Nat → Nat → Int64} {X : Nat} {T : zTb} {x : Int32} {Q : Option Value → zW → Prop} {QX : String → zW → Prop} (G : zGok g) (hx : shX w X) (ht : tbAt w f X (X + 11) T) (hK_z : ∀ i, i < 3 → tbK w f (X + 109 + 41 * i)) (hXNE : ¬ (0 ≤ x.toInt ∧ x.toInt < 3) → ∀ n, zS w ≤ n → QX "java/util/NoSuchElementException" (zsS (zM w f j) n)) (hQ : (0 ≤ x.toInt ∧ x.toInt < 3) → ∀ P2 f2_z, (∀ q k, ¬ (q = (X + 109 + 41 * x.toInt.toNat) ∧ k = 0) → P2 q k = zP w q k) → (∀ q, ¬ (q = (X + 109 + 41 * x.toInt.toNat) ∨ (X + 109 + 41 * x.toInt.toNat) + 7 ≤ q ∧ q < (X + 109 + 41 * x.toInt.toNat) + 41 ∨ q = X + 53) → f2_z q = f q) → (f2_z (X + 53) x.toInt.toNat).toInt = 1 → (∀ k, k ≠ x.toInt.toNat → f2_z (X + 53) k = f (X + 53) k) → tbAt (zsP w P2) f2_z X (X + 109 + 41 * x.toInt.toNat) T → Q none (zM (zsP w P2) f2_z j)) : zC g 7 yX11_image cX11_image 2 none [.ref X, .int x] (zM w f j) (1, 6) Q QX := by
  refine zC_of G (by decide +kernel) (Nat.le_of_ble_eq_true rfl) ?_
  have ht0 := ht
  obtain ⟨nq, pp, g0, p0, hnq, hna0, hpp, hctb, hpast, hwf⟩ := ht0
  have hna1 := hna0
  obtain ⟨hna, hcn, ⟨hz1, hz2, hz3⟩, hl1, hl2, hl3⟩ := hna0
  have hmo := hctb.2.2.1
  have hn6 : tbC T ≤ 6 := hwf.2.1
  have hg4 : tbG T ≤ 4 := hwf.2.2.1
  have hwm := hwf.2.2.2.2.2.2.2.1
  have hrt := wfT_rch hwf
  have hfl : (f (X + 11 + 7) 2).toInt = (T.2.2.1.2.length : Nat) := by rw [hmo.1]; have := hmo.2.1; exact zi_n (by omega)
  have hcells : (f nq 1).toInt = (tbC T : Nat) := by rw [hcn.2.1]; exact zi_n (n := tbC T) (by omega)
  have hgs : (f nq 2).toInt = (tbG T : Nat) := by rw [hcn.2.2.1]; exact zi_n (n := tbG T) (by omega)
  refine r_aloadR0 dX11_image_0 ?_
  refine r_iload1 dX11_image_1 ?_
  refine q_callV1 zm_RX11_529 dX11_image_2 (shX_k (w := w) hx) (by decide) rfl (Nat.le_of_ble_eq_true rfl) (Nat.le_of_ble_eq_true rfl) (Nat.le_of_ble_eq_true rfl) (Nat.le_of_ble_eq_true rfl) (Nat.le_of_ble_eq_true rfl) (s_X11_pictureAt G hx (fun hxx n hn => x_out (hXNE hxx n hn) (Nat.le_of_ble_eq_true rfl) (Nat.le_of_ble_eq_true rfl)) (fun hok => ?_))
  have hxk : x.toInt.toNat < 3 := by omega
  refine r_aloadR0 dX11_image_5 ?_
  obtain ⟨pp9, M9, g9, p9, hpp9, hct9⟩ := hK_z _ hxk
  refine m_getR (q := (X + 11)) zf_RX11_33 rfl dX11_image_6 (shX_k (w := w) hx) (shX_p5 hx) ?_
  refine q_callV1 zm_RX11_533 dX11_image_9 (shTb_k (w := w) (shX_pi hx hxk).1) (by decide) rfl (Nat.le_of_ble_eq_true rfl) (Nat.le_of_ble_eq_true rfl) (Nat.le_of_ble_eq_true rfl) (Nat.le_of_ble_eq_true rfl) (Nat.le_of_ble_eq_true rfl) (s_X7_take G (shX_pi hx hxk).1 hpp9 hct9 (shX_tb hx) hpp hctb (by omega) hnq (fun f1_z hof hct1 => ?_))
  have hP2 : ∀ q k, ¬ (q = (X + 109 + 41 * x.toInt.toNat) ∧ k = 0) → zu (zP w) (X + 109 + 41 * x.toInt.toNat) 0 (some nq) q k = zP w q k := fun q k hq => zu_nn (by omega)
  have hPR : ∀ q, q ≠ (X + 109 + 41 * x.toInt.toNat) → zu (zP w) (X + 109 + 41 * x.toInt.toNat) 0 (some nq) q = zP w q := fun q hq => zu_ne hq
  have hP0 : zu (zP w) (X + 109 + 41 * x.toInt.toNat) 0 (some nq) (X + 109 + 41 * x.toInt.toNat) 0 = some nq := zu_at
  generalize hPg : zu (zP w) (X + 109 + 41 * x.toInt.toNat) 0 (some nq) = P2 at hP2 hPR hP0
  have hx2 := shX_P2 hx (Or.inr (pic_d hxk)) hP2
  refine r_iload1 dX11_image_12 ?_
  refine t_iflt (t := 32) dX11_image_13 (by decide) (fun h13 => False.elim (by omega)) (fun h13 => ?_)
  refine r_iload1 dX11_image_16 ?_
  refine r_aloadR0 dX11_image_17 ?_
  refine m_getR (q := (X + 53)) zf_RX11_41 rfl dX11_image_18 (shX_k (w := w) hx) (shX_p7 hx2) ?_
  refine m_alen dX11_image_21 (zge (shX_k53 hx2) (by decide)) (shX_n53 hx2) (by first | decide | omega) (fun r21 e21_z => ?_)
  refine t_icge (t := 32) dX11_image_22 (by decide) (fun h22 => False.elim (by omega)) (fun h22 => ?_)
  refine r_aloadR0 dX11_image_25 ?_
  refine m_getR (q := (X + 53)) zf_RX11_41 rfl dX11_image_26 (shX_k (w := w) hx) (shX_p7 hx2) ?_
  refine r_iload1 dX11_image_29 ?_
  refine n_iconst dX11_image_30 (by decide) (fun r30 e30 => ?_)
  refine m_zast (k := x.toInt.toNat) dX11_image_31 (shX_k53 hx2) (shX_n53 hx2) (by omega) (by omega) (by omega) ?_
  refine r_vret dX11_image_32 rfl (Nat.le_of_ble_eq_true rfl) (Nat.le_of_ble_eq_true rfl) ?_
  have hF : ∀ q, ¬ (q = (X + 109 + 41 * x.toInt.toNat) ∨ (X + 109 + 41 * x.toInt.toNat) + 7 ≤ q ∧ q < (X + 109 + 41 * x.toInt.toNat) + 41 ∨ q = X + 53) → zu f1_z (X + 53) x.toInt.toNat r30 q = f q := fun q hq => (zu_ne (by omega)).trans (hof q (by omega))
  have hzF : ∀ q, zoneX X q → zu f1_z (X + 53) x.toInt.toNat r30 q = f q := fun q hq => hF q (by unfold zoneX at hq; omega)
  refine hQ (by omega) P2 _ hP2 hF (by rw [zu_at]; exact e30) (fun k hk => (zu_nn (by omega)).trans (by rw [hof (X + 53) (by omega)])) ⟨nq, pp9, g0, p0, hP0, naAt_P (naAt_q hna1 hzF) (fun q hq => hPR q (by unfold zoneX at hq; omega)), ?_, ?_, hpast, hwf⟩
  · refine ⟨fun i hi_z => ?_, hpp9.2⟩
    have h91 := hpp9.1 i hi_z
    exact ⟨(congrFun (hPR _ (by omega)) i).trans h91.1, h91.2⟩
  · refine ctTb_q hct1 hpp9 (fun q hq => zu_ne (by omega))
