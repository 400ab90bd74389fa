/-! the class: pictures; count -/
def tbK (w : zW) (f : Nat → Nat → Int32) (a : Nat) : Prop := ∃ pp M g0 p, ppOk (zP w) a pp ∧ ctTb f a pp M g0 p
theorem tbK_of {w : zW} {f : Nat → Nat → Int32} {X a : Nat} {T : zTb} (h_z : tbAt w f X a T) : tbK w f a := by
  obtain ⟨nq, pp, g0, p0, hnq, hna0, hpp, hctb, hpast, hwf⟩ := h_z
  exact ⟨pp, T.2.2.1, g0, p0, hpp, hctb⟩
theorem pic_d {X i : Nat} (hi_z : i < 3) : X + 108 + 41 * i = X + 108 ∨ X + 108 + 41 * i = X + 149 ∨ X + 108 + 41 * i = X + 190 := by omega
theorem shX_P2 {w : zW} {P2 : Nat → Nat → Option Nat} {X a : Nat} (h_z : shX w X) (ha_z : a = X + 11 ∨ a = X + 108 ∨ a = X + 149 ∨ a = X + 190) (e : ∀ q k, ¬ (q = a ∧ k = 0) → P2 q k = zP w q k) : shX (zsP w P2) X := shX_P h_z (fun q k hq => e q k (by unfold okP at hq; omega))
set_option maxHeartbeats 4000000 in
set_option maxRecDepth 100000 in
theorem s_X11_pictureAt {g : zGT} {w : zW} {f : Nat → Nat → Int32} {j : Nat → Nat → Int64} {X : Nat} {x : Int32} {Q : Option Value → zW → Prop} {QX : String → zW → Prop} (G : zGok g) (hx : shX w X) (hXNE : ¬ (0 ≤ x.toInt ∧ x.toInt < 3) → ∀ n, zS w ≤ n → QX "java/util/NoSuchElementException" (zsS (zM w f j) n)) (hQ : (0 ≤ x.toInt ∧ x.toInt < 3) → Q (some (.ref (X + 108 + 41 * x.toInt.toNat))) (zM w f j)) : zC g 6 yX11_pictureAt cX11_pictureAt 2 (some (.object "NapkinDeeds$Table")) [.ref X, .int x] (zM w f j) (1, 6) Q QX := by
  refine zC_of G (by decide +kernel) (Nat.le_of_ble_eq_true rfl) ?_
  refine r_iload1 dX11_pictureAt_0 ?_
  refine t_iflt (t := 22) dX11_pictureAt_1 (by decide) (fun h1 => ?_) (fun h1 => ?_)
  · refine r_throwWNE (List.mem_of_getElem? (i := 25) rfl) dX11_pictureAt_22 dX11_pictureAt_25 dX11_pictureAt_26 dX11_pictureAt_29 dX11_pictureAt_32 (Nat.le_of_ble_eq_true rfl) (Nat.le_of_ble_eq_true rfl) (Nat.le_of_ble_eq_true rfl) (Nat.le_of_ble_eq_true rfl) ?_
    exact hXNE (by omega)
  · refine r_iload1 dX11_pictureAt_4 ?_
    refine r_aloadR0 dX11_pictureAt_5 ?_
    refine m_getR (q := (X + 52)) zf_RX11_37 rfl dX11_pictureAt_6 (shX_k (w := w) hx) (shX_p6 hx) ?_
    refine m_alen dX11_pictureAt_9 (zge (shX_k52 hx) (by decide)) (shX_n52 hx) (by first | decide | omega) (fun r9 e9_z => ?_)
    refine t_icge (t := 22) dX11_pictureAt_10 (by decide) (fun h10 => ?_) (fun h10 => ?_)
    · refine r_throwWNE (List.mem_of_getElem? (i := 25) rfl) dX11_pictureAt_22 dX11_pictureAt_25 dX11_pictureAt_26 dX11_pictureAt_29 dX11_pictureAt_32 (Nat.le_of_ble_eq_true rfl) (Nat.le_of_ble_eq_true rfl) (Nat.le_of_ble_eq_true rfl) (Nat.le_of_ble_eq_true rfl) ?_
      exact hXNE (by omega)
    · refine r_aloadR0 dX11_pictureAt_13 ?_
      have hxk : x.toInt.toNat < 3 := by omega
      refine m_getR (q := (X + 52)) zf_RX11_37 rfl dX11_pictureAt_14 (shX_k (w := w) hx) (shX_p6 hx) ?_
      refine r_iload1 dX11_pictureAt_17 ?_
      refine m_aald (ci := 6) (k := x.toInt.toNat) (q := (X + 108 + 41 * x.toInt.toNat)) dX11_pictureAt_18 (shX_k52 hx) (shX_n52 hx) (by omega) (by omega) ((shX_pi hx hxk).2) ?_
      refine r_ifnonnull (r := some (X + 108 + 41 * x.toInt.toNat)) (t := 33) dX11_pictureAt_19 (by decide) (fun q19 h19 => ?_) (fun h19 => False.elim (absurd h19 (fun h9 => by cases h9)))
      refine r_aloadR0 dX11_pictureAt_33 ?_
      refine m_getR (q := (X + 52)) zf_RX11_37 rfl dX11_pictureAt_34 (shX_k (w := w) hx) (shX_p6 hx) ?_
      refine r_iload1 dX11_pictureAt_37 ?_
      refine m_aald (ci := 6) (k := x.toInt.toNat) (q := (X + 108 + 41 * x.toInt.toNat)) dX11_pictureAt_38 (shX_k52 hx) (shX_n52 hx) (by omega) (by omega) ((shX_pi hx hxk).2) ?_
      refine r_aret dX11_pictureAt_39 rfl (by first | exact Or.inl ⟨_, rfl⟩ | exact Or.inr ⟨_, rfl⟩) (by first | exact zrf_r | exact zrf_o | exact zrf_n) (Nat.le_of_ble_eq_true rfl) (Nat.le_of_ble_eq_true rfl) ?_
      exact hQ (by omega)
theorem ctTb_m {f : Nat → Nat → Int32} {a p : Nat} {pp : Nat → Nat} {M : zMo} {g0 : Nat → zMo} {P2 : Nat → Nat → Option Nat} {v : Int32} (h_z : ctTb f a pp M g0 p) (hp : ppOk P2 a pp) : ctTb (zu f a 4 v) a pp M g0 p := by
  obtain ⟨h1, h2, h3, h4⟩ := h_z
  refine ⟨by rw [zu_nn (by omega)]; exact h1, h2, ctMo_of h3 (zu_ne (by omega)) (zu_ne (by omega)) (zu_ne (by omega)), fun i hi_z => ?_⟩
  have := (hp.1 i hi_z).2
  exact ctMo_of (h4 i hi_z) (zu_ne (by omega)) (zu_ne (by omega)) (zu_ne (by omega))
set_option maxHeartbeats 4000000 in
set_option maxRecDepth 100000 in
theorem s_X11_image {g : zGT} {w : zW} {f : Nat → Nat → Int32} {j : Nat → Nat → Int64} {X : Nat} {T : zTb} {x : Int32} {Q : Option Value → zW → Prop} {QX : String → zW → Prop} (G : zGok g) (hx : shX w X) (ht : tbAt w f X (X + 11) T) (hK_z : ∀ i, i < 3 → tbK w f (X + 108 + 41 * i)) (hXNE : ¬ (0 ≤ x.toInt ∧ x.toInt < 3) → ∀ n, zS w ≤ n → QX "java/util/NoSuchElementException" (zsS (zM w f j) n)) (hQ : (0 ≤ x.toInt ∧ x.toInt < 3) → ∀ P2 f2_z, (∀ q k, ¬ (q = (X + 108 + 41 * x.toInt.toNat) ∧ k = 0) → P2 q k = zP w q k) → (∀ q, ¬ (q = (X + 108 + 41 * x.toInt.toNat) ∨ (X + 108 + 41 * x.toInt.toNat) + 7 ≤ q ∧ q < (X + 108 + 41 * x.toInt.toNat) + 41) → f2_z q = f q) → (f2_z (X + 108 + 41 * x.toInt.toNat) 4).toInt = 1 → tbAt (zsP w P2) f2_z X (X + 108 + 41 * x.toInt.toNat) T → Q none (zM (zsP w P2) f2_z j)) : zC g 7 yX11_image cX11_image 3 none [.ref X, .int x] (zM w f j) (1, 6) Q QX := by
  refine zC_of G (by decide +kernel) (Nat.le_of_ble_eq_true rfl) ?_
  have ht0 := ht
  obtain ⟨nq, pp, g0, p0, hnq, hna0, hpp, hctb, hpast, hwf⟩ := ht0
  have hna1 := hna0
  obtain ⟨hna, hcn, ⟨hz1, hz2, hz3⟩, hl1, hl2, hl3⟩ := hna0
  have hmo := hctb.2.2.1
  have hn6 : tbC T ≤ 6 := hwf.2.1
  have hg4 : tbG T ≤ 4 := hwf.2.2.1
  have hwm := hwf.2.2.2.2.2.2.2.1
  have hrt := wfT_rch hwf
  have hfl : (f (X + 11 + 7) 2).toInt = (T.2.2.1.2.length : Nat) := by rw [hmo.1]; have := hmo.2.1; exact zi_n (by omega)
  have hcells : (f nq 1).toInt = (tbC T : Nat) := by rw [hcn.2.1]; exact zi_n (n := tbC T) (by omega)
  have hgs : (f nq 2).toInt = (tbG T : Nat) := by rw [hcn.2.2.1]; exact zi_n (n := tbG T) (by omega)
  refine r_aloadR0 dX11_image_0 ?_
  refine r_iload1 dX11_image_1 ?_
  refine q_callV1 zm_RX11_525 dX11_image_2 (shX_k (w := w) hx) (by decide) rfl (Nat.le_of_ble_eq_true rfl) (Nat.le_of_ble_eq_true rfl) (Nat.le_of_ble_eq_true rfl) (Nat.le_of_ble_eq_true rfl) (Nat.le_of_ble_eq_true rfl) (s_X11_pictureAt G hx (fun hxx n hn => x_out (hXNE hxx n hn) (Nat.le_of_ble_eq_true rfl) (Nat.le_of_ble_eq_true rfl)) (fun hok => ?_))
  have hxk : x.toInt.toNat < 3 := by omega
  refine r_astore2 dX11_image_5 rfl ?_
  obtain ⟨pp9, M9, g9, p9, hpp9, hct9⟩ := hK_z _ hxk
  refine r_aloadR2 dX11_image_6 ?_
  refine r_aloadR0 dX11_image_7 ?_
  refine m_getR (q := (X + 11)) zf_RX11_33 rfl dX11_image_8 (shX_k (w := w) hx) (shX_p5 hx) ?_
  refine q_callV1 zm_RX11_529 dX11_image_11 (shTb_k (w := w) (shX_pi hx hxk).1) (by decide) rfl (Nat.le_of_ble_eq_true rfl) (Nat.le_of_ble_eq_true rfl) (Nat.le_of_ble_eq_true rfl) (Nat.le_of_ble_eq_true rfl) (Nat.le_of_ble_eq_true rfl) (s_X7_take G (shX_pi hx hxk).1 hpp9 hct9 (shX_tb hx) hpp hctb (by omega) hnq (fun f1_z hof hct1 => ?_))
  have hP2 : ∀ q k, ¬ (q = (X + 108 + 41 * x.toInt.toNat) ∧ k = 0) → zu (zP w) (X + 108 + 41 * x.toInt.toNat) 0 (some nq) q k = zP w q k := fun q k hq => zu_nn (by omega)
  have hPR : ∀ q, q ≠ (X + 108 + 41 * x.toInt.toNat) → zu (zP w) (X + 108 + 41 * x.toInt.toNat) 0 (some nq) q = zP w q := fun q hq => zu_ne hq
  have hP0 : zu (zP w) (X + 108 + 41 * x.toInt.toNat) 0 (some nq) (X + 108 + 41 * x.toInt.toNat) 0 = some nq := zu_at
  generalize hPg : zu (zP w) (X + 108 + 41 * x.toInt.toNat) 0 (some nq) = P2 at hP2 hPR hP0
  have hx2 := shX_P2 hx (Or.inr (pic_d hxk)) hP2
  refine r_aloadR2 dX11_image_14 ?_
  refine n_iconst dX11_image_15 (by decide) (fun r15 e15_z => ?_)
  refine m_putZ zf_RX11_532 (by intro C T N h_z; cases h_z; rfl) rfl (by omega) dX11_image_16 (shTb_k (w := w) (shX_pi hx hxk).1) ?_
  refine r_vret dX11_image_19 rfl (Nat.le_of_ble_eq_true rfl) (Nat.le_of_ble_eq_true rfl) ?_
  have hF : ∀ q, ¬ (q = (X + 108 + 41 * x.toInt.toNat) ∨ (X + 108 + 41 * x.toInt.toNat) + 7 ≤ q ∧ q < (X + 108 + 41 * x.toInt.toNat) + 41) → zu f1_z (X + 108 + 41 * x.toInt.toNat) 4 r15 q = f q := fun q hq => (zu_ne (by omega)).trans (hof q (by omega))
  have hzF : ∀ q, zoneX X q → zu f1_z (X + 108 + 41 * x.toInt.toNat) 4 r15 q = f q := fun q hq => hF q (by unfold zoneX at hq; omega)
  have hpp8 : ppOk P2 (X + 108 + 41 * x.toInt.toNat) pp9 := ⟨fun i hi_z => ⟨(congrFun (hPR _ (by omega)) i).trans (hpp9.1 i hi_z).1, (hpp9.1 i hi_z).2⟩, hpp9.2⟩
  exact hQ (by omega) P2 _ hP2 hF (by rw [zu_at]; exact e15_z) ⟨nq, pp9, g0, p0, hP0, naAt_P (naAt_q hna1 hzF) (fun q hq => hPR q (by unfold zoneX at hq; omega)), hpp8, ctTb_m hct1 hpp9, hpast, hwf⟩
def imAt (w : zW) (f : Nat → Nat → Int32) (X i : Nat) : Option zTb → Prop
  | none => (f (X + 108 + 41 * i) 4).toInt = 0
  | some T => (f (X + 108 + 41 * i) 4).toInt = 1 ∧ tbAt w f X (X + 108 + 41 * i) T
set_option maxHeartbeats 4000000 in
set_option maxRecDepth 100000 in
theorem s_X11_restore {g : zGT} {w : zW} {f : Nat → Nat → Int32} {j : Nat → Nat → Int64} {X : Nat} {T : zTb} {x : Int32} {im : Nat → Option zTb} {Q : Option Value → zW → Prop} {QX : String → zW → Prop} (G : zGok g) (hx : shX w X) (ht : tbAt w f X (X + 11) T) (hIM : ∀ i, i < 3 → imAt w f X i (im i)) (hXNE : ¬ (0 ≤ x.toInt ∧ x.toInt < 3) → ∀ n, zS w ≤ n → QX "java/util/NoSuchElementException" (zsS (zM w f j) n)) (hXIS : (0 ≤ x.toInt ∧ x.toInt < 3) → im x.toInt.toNat = none → ∀ n, zS w ≤ n → QX "java/lang/IllegalStateException" (zsS (zM w f j) n)) (hQ : (0 ≤ x.toInt ∧ x.toInt < 3) → ∀ Ti, im x.toInt.toNat = some Ti → ∀ P2 f2_z, (∀ q k, ¬ (q = X + 11 ∧ k = 0) → P2 q k = zP w q k) → frT X f f2_z → tbAt (zsP w P2) f2_z X (X + 11) Ti → Q none (zM (zsP w P2) f2_z j)) : zC g 7 yX11_restore cX11_restore 3 none [.ref X, .int x] (zM w f j) (2, 12) Q QX := by
  refine zC_of G (by decide +kernel) (Nat.le_of_ble_eq_true rfl) ?_
  have ht0 := ht
  obtain ⟨nq, pp, g0, p0, hnq, hna0, hpp, hctb, hpast, hwf⟩ := ht0
  have hna1 := hna0
  obtain ⟨hna, hcn, ⟨hz1, hz2, hz3⟩, hl1, hl2, hl3⟩ := hna0
  have hmo := hctb.2.2.1
  have hn6 : tbC T ≤ 6 := hwf.2.1
  have hg4 : tbG T ≤ 4 := hwf.2.2.1
  have hwm := hwf.2.2.2.2.2.2.2.1
  have hrt := wfT_rch hwf
  have hfl : (f (X + 11 + 7) 2).toInt = (T.2.2.1.2.length : Nat) := by rw [hmo.1]; have := hmo.2.1; exact zi_n (by omega)
  have hcells : (f nq 1).toInt = (tbC T : Nat) := by rw [hcn.2.1]; exact zi_n (n := tbC T) (by omega)
  have hgs : (f nq 2).toInt = (tbG T : Nat) := by rw [hcn.2.2.1]; exact zi_n (n := tbG T) (by omega)
  refine r_aloadR0 dX11_restore_0 ?_
  refine r_iload1 dX11_restore_1 ?_
  refine q_callV1 zm_RX11_525 dX11_restore_2 (shX_k (w := w) hx) (by decide) rfl (Nat.le_of_ble_eq_true rfl) (Nat.le_of_ble_eq_true rfl) (Nat.le_of_ble_eq_true rfl) (Nat.le_of_ble_eq_true rfl) (Nat.le_of_ble_eq_true rfl) (s_X11_pictureAt G hx (fun hxx n hn => x_out (hXNE hxx n hn) (Nat.le_of_ble_eq_true rfl) (Nat.le_of_ble_eq_true rfl)) (fun hok => ?_))
  have hxk : x.toInt.toNat < 3 := by omega
  refine r_astore2 dX11_restore_5 rfl ?_
  have hi9 := hIM _ hxk
  cases hcs : im x.toInt.toNat with
  | none =>
    rw [hcs] at hi9
    have hpi : (f (X + 108 + 41 * x.toInt.toNat) 4).toInt = 0 := hi9
    refine r_aloadR2 dX11_restore_6 ?_
    refine m_getV (x := (f (X + 108 + 41 * x.toInt.toNat) 4)) zf_RX11_532 rfl dX11_restore_7 (shTb_k (w := w) (shX_pi hx hxk).1) (rfl) ?_
    refine t_ifne (t := 24) dX11_restore_10 (by decide) (fun h10 => False.elim (by omega)) (fun h10 => ?_)
    refine r_throwW zth_IS (List.mem_of_getElem? (i := 26) rfl) dX11_restore_13 dX11_restore_16 dX11_restore_17 dX11_restore_20 dX11_restore_23 (Nat.le_of_ble_eq_true rfl) (Nat.le_of_ble_eq_true rfl) (Nat.le_of_ble_eq_true rfl) (Nat.le_of_ble_eq_true rfl) ?_
    exact hXIS hok hcs
  | some Ti =>
    rw [hcs] at hi9
    obtain ⟨hpi, hti⟩ : (f (X + 108 + 41 * x.toInt.toNat) 4).toInt = 1 ∧ tbAt w f X (X + 108 + 41 * x.toInt.toNat) Ti := hi9
    obtain ⟨nqi, ppi, gi, pi, hnqi, hnai, hppi, hctbi, hpasti, hwfi⟩ := hti
    refine r_aloadR2 dX11_restore_6 ?_
    refine m_getV (x := (f (X + 108 + 41 * x.toInt.toNat) 4)) zf_RX11_532 rfl dX11_restore_7 (shTb_k (w := w) (shX_pi hx hxk).1) (rfl) ?_
    refine t_ifne (t := 24) dX11_restore_10 (by decide) (fun h10 => ?_) (fun h10 => False.elim (by omega))
    refine r_aloadR0 dX11_restore_24 ?_
    refine m_getR (q := (X + 11)) zf_RX11_33 rfl dX11_restore_25 (shX_k (w := w) hx) (shX_p5 hx) ?_
    refine r_aloadR2 dX11_restore_28 ?_
    refine q_callV1 zm_RX11_529 dX11_restore_29 (shTb_k (shX_tb hx)) (by decide) rfl (Nat.le_of_ble_eq_true rfl) (Nat.le_of_ble_eq_true rfl) (Nat.le_of_ble_eq_true rfl) (Nat.le_of_ble_eq_true rfl) (Nat.le_of_ble_eq_true rfl) (s_X7_take G (shX_tb hx) hpp hctb (shX_pi hx hxk).1 hppi hctbi (by omega) hnqi (fun f1_z hof hct1 => ?_))
    have hP2 : ∀ q k, ¬ (q = X + 11 ∧ k = 0) → zu (zP w) (X + 11) 0 (some nqi) q k = zP w q k := fun q k hq => zu_nn (by omega)
    have hPR : ∀ q, q ≠ X + 11 → zu (zP w) (X + 11) 0 (some nqi) q = zP w q := fun q hq => zu_ne hq
    have hP0 : zu (zP w) (X + 11) 0 (some nqi) (X + 11) 0 = some nqi := zu_at
    generalize hPg : zu (zP w) (X + 11) 0 (some nqi) = P2 at hP2 hPR hP0
    refine r_vret dX11_restore_32 rfl (Nat.le_of_ble_eq_true rfl) (Nat.le_of_ble_eq_true rfl) ?_
    refine hQ hok Ti hcs P2 f1_z hP2 (fun q hq => hof q (by omega)) ⟨nqi, pp, gi, pi, hP0, naAt_P (naAt_q hnai (fun q hq => hof q (by unfold zoneX at hq; omega))) (fun q hq => hPR q (by unfold zoneX at hq; omega)), ?_, hct1, hpasti, hwfi⟩
    refine ⟨fun i hi_z => ?_, hpp.2⟩
    have h91 := hpp.1 i hi_z
    exact ⟨(congrFun (hPR _ (by omega)) i).trans h91.1, h91.2⟩
def cntI (T : zTb) (tp x : Int) : Int := if x = 0 then (T.1.1 : Nat) else if x = 1 then (tbC T : Nat) else if x = 2 then (tbG T : Nat) else if 3 ≤ x ∧ x ≤ 8 then fctN T.2.2.1.1 (tbC T) (tbL T) T.2.2.1.2.length 0 0 (x - 3).toNat else if x = 9 then (T.2.2.2.length : Nat) else if x = 10 then tp else -1
set_option maxHeartbeats 4000000 in
set_option maxRecDepth 100000 in
theorem s_X11_count {g : zGT} {w : zW} {f : Nat → Nat → Int32} {j : Nat → Nat → Int64} {X : Nat} {T : zTb} {x : Int32} {Q : Option Value → zW → Prop} {QX : String → zW → Prop} (G : zGok g) (hx : shX w X) (ht : tbAt w f X (X + 11) T) (hQ : ∀ (r : Int32) f2_z, r.toInt = cntI T (f X 1).toInt x.toInt → qX X f f2_z → Q (some (.int r)) (zM w f2_z j)) : zC g 8 yX11_count cX11_count 2 (some .int) [.ref X, .int x] (zM w f j) (0, 0) Q QX := by
  refine zC_of G (by decide +kernel) (Nat.le_of_ble_eq_true rfl) ?_
  have ht0 := ht
  obtain ⟨nq, pp, g0, p0, hnq, hna0, hpp, hctb, hpast, hwf⟩ := ht0
  have hna1 := hna0
  obtain ⟨hna, hcn, ⟨hz1, hz2, hz3⟩, hl1, hl2, hl3⟩ := hna0
  have hmo := hctb.2.2.1
  have hn6 : tbC T ≤ 6 := hwf.2.1
  have hg4 : tbG T ≤ 4 := hwf.2.2.1
  have hwm := hwf.2.2.2.2.2.2.2.1
  have hrt := wfT_rch hwf
  have hfl : (f (X + 11 + 7) 2).toInt = (T.2.2.1.2.length : Nat) := by rw [hmo.1]; have := hmo.2.1; exact zi_n (by omega)
  have hcells : (f nq 1).toInt = (tbC T : Nat) := by rw [hcn.2.1]; exact zi_n (n := tbC T) (by omega)
  have hgs : (f nq 2).toInt = (tbG T : Nat) := by rw [hcn.2.2.1]; exact zi_n (n := tbG T) (by omega)
  have hlen : T.2.2.2.length = p0 := by rw [hpast, List.length_map, List.length_range]
  have hps := hctb.1
  have hlns : (f nq 0).toInt = (T.1.1 : Nat) := by rw [hcn.1]; exact zi_n (by have := hwf.1; omega)
  have hqr : qX X f f := qX_S frS_rf
  refine r_iload1 dX11_count_0 ?_
  refine n_tabC (k := 0) (t := 60) dX11_count_1 (by decide) rfl (by decide) (fun h1_0 => ?_) (fun h1_0 => ?_)
  · refine r_aloadR0 dX11_count_60 ?_
    refine m_getR (q := (X + 11)) zf_RX11_33 rfl dX11_count_61 (shX_k (w := w) hx) (shX_p5 hx) ?_
    refine m_getR (q := nq) zf_RX11_181 rfl dX11_count_64 (shTb_k (shX_tb hx)) hnq ?_
    refine m_getV (x := (f nq 0)) zf_RX11_118 rfl dX11_count_67 (shNa_k hna) (rfl) ?_
    refine r_iret dX11_count_70 rfl (Nat.le_of_ble_eq_true rfl) (Nat.le_of_ble_eq_true rfl) ?_
    refine hQ _ _ ?_ hqr
    unfold cntI
    first
      | (rw [if_pos (by omega)]; first | done | omega)
      | (rw [if_neg (by omega), if_pos (by omega)]; first | done | omega)
      | (rw [if_neg (by omega), if_neg (by omega), if_pos (by omega)]; first | done | omega)
      | (rw [if_neg (by omega), if_neg (by omega), if_neg (by omega), if_neg (by omega), if_pos (by omega)]; first | done | omega)
      | (rw [if_neg (by omega), if_neg (by omega), if_neg (by omega), if_neg (by omega), if_neg (by omega), if_pos (by omega)]; first | done | omega)
      | (rw [if_neg (by omega), if_neg (by omega), if_neg (by omega), if_neg (by omega), if_neg (by omega), if_neg (by omega)]; first | done | omega)
  refine n_tabC (k := 1) (t := 71) dX11_count_1 (by decide) rfl (by decide) (fun h1_1 => ?_) (fun h1_1 => ?_)
  · refine r_aloadR0 dX11_count_71 ?_
    refine m_getR (q := (X + 11)) zf_RX11_33 rfl dX11_count_72 (shX_k (w := w) hx) (shX_p5 hx) ?_
    refine m_getR (q := nq) zf_RX11_181 rfl dX11_count_75 (shTb_k (shX_tb hx)) hnq ?_
    refine m_getV (x := (f nq 1)) zf_RX11_185 rfl dX11_count_78 (shNa_k hna) (rfl) ?_
    refine r_iret dX11_count_81 rfl (Nat.le_of_ble_eq_true rfl) (Nat.le_of_ble_eq_true rfl) ?_
    refine hQ _ _ ?_ hqr
    unfold cntI
    first
      | (rw [if_pos (by omega)]; first | done | omega)
      | (rw [if_neg (by omega), if_pos (by omega)]; first | done | omega)
      | (rw [if_neg (by omega), if_neg (by omega), if_pos (by omega)]; first | done | omega)
      | (rw [if_neg (by omega), if_neg (by omega), if_neg (by omega), if_neg (by omega), if_pos (by omega)]; first | done | omega)
      | (rw [if_neg (by omega), if_neg (by omega), if_neg (by omega), if_neg (by omega), if_neg (by omega), if_pos (by omega)]; first | done | omega)
      | (rw [if_neg (by omega), if_neg (by omega), if_neg (by omega), if_neg (by omega), if_neg (by omega), if_neg (by omega)]; first | done | omega)
  refine n_tabC (k := 2) (t := 82) dX11_count_1 (by decide) rfl (by decide) (fun h1_2 => ?_) (fun h1_2 => ?_)
  · refine r_aloadR0 dX11_count_82 ?_
    refine m_getR (q := (X + 11)) zf_RX11_33 rfl dX11_count_83 (shX_k (w := w) hx) (shX_p5 hx) ?_
    refine m_getR (q := nq) zf_RX11_181 rfl dX11_count_86 (shTb_k (shX_tb hx)) hnq ?_
    refine m_getV (x := (f nq 2)) zf_RX11_209 rfl dX11_count_89 (shNa_k hna) (rfl) ?_
    refine r_iret dX11_count_92 rfl (Nat.le_of_ble_eq_true rfl) (Nat.le_of_ble_eq_true rfl) ?_
    refine hQ _ _ ?_ hqr
    unfold cntI
    first
      | (rw [if_pos (by omega)]; first | done | omega)
      | (rw [if_neg (by omega), if_pos (by omega)]; first | done | omega)
      | (rw [if_neg (by omega), if_neg (by omega), if_pos (by omega)]; first | done | omega)
      | (rw [if_neg (by omega), if_neg (by omega), if_neg (by omega), if_neg (by omega), if_pos (by omega)]; first | done | omega)
      | (rw [if_neg (by omega), if_neg (by omega), if_neg (by omega), if_neg (by omega), if_neg (by omega), if_pos (by omega)]; first | done | omega)
      | (rw [if_neg (by omega), if_neg (by omega), if_neg (by omega), if_neg (by omega), if_neg (by omega), if_neg (by omega)]; first | done | omega)
  refine n_tabC (k := 3) (t := 93) dX11_count_1 (by decide) rfl (by decide) (fun h1_3 => ?_) (fun h1_3 => ?_)
  · refine r_aloadR0 dX11_count_93 ?_
    refine n_iconst dX11_count_94 (by decide) (fun r94 e94_z => ?_)
    refine q_callV1 zm_RX11_538 dX11_count_95 (shX_k (w := w) hx) (by decide) rfl (Nat.le_of_ble_eq_true rfl) (Nat.le_of_ble_eq_true rfl) (Nat.le_of_ble_eq_true rfl) (Nat.le_of_ble_eq_true rfl) (Nat.le_of_ble_eq_true rfl) (s_X11_factNow (k := 0) G hx ht (by omega) (by omega) (fun r95 f9_z eF hq9 => ?_))
    refine r_iret dX11_count_98 rfl (Nat.le_of_ble_eq_true rfl) (Nat.le_of_ble_eq_true rfl) ?_
    refine hQ _ _ ?_ hq9
    unfold cntI
    rw [if_neg (by omega), if_neg (by omega), if_neg (by omega), if_pos (by omega)]
    rw [eF]
    congr 1
    omega
  refine n_tabC (k := 4) (t := 99) dX11_count_1 (by decide) rfl (by decide) (fun h1_4 => ?_) (fun h1_4 => ?_)
  · refine r_aloadR0 dX11_count_99 ?_
    refine n_iconst dX11_count_100 (by decide) (fun r100 e100_z => ?_)
    refine q_callV1 zm_RX11_538 dX11_count_101 (shX_k (w := w) hx) (by decide) rfl (Nat.le_of_ble_eq_true rfl) (Nat.le_of_ble_eq_true rfl) (Nat.le_of_ble_eq_true rfl) (Nat.le_of_ble_eq_true rfl) (Nat.le_of_ble_eq_true rfl) (s_X11_factNow (k := 1) G hx ht (by omega) (by omega) (fun r101 f9_z eF hq9 => ?_))
    refine r_iret dX11_count_104 rfl (Nat.le_of_ble_eq_true rfl) (Nat.le_of_ble_eq_true rfl) ?_
    refine hQ _ _ ?_ hq9
    unfold cntI
    rw [if_neg (by omega), if_neg (by omega), if_neg (by omega), if_pos (by omega)]
    rw [eF]
    congr 1
    omega
  refine n_tabC (k := 5) (t := 105) dX11_count_1 (by decide) rfl (by decide) (fun h1_5 => ?_) (fun h1_5 => ?_)
  · refine r_aloadR0 dX11_count_105 ?_
    refine n_iconst dX11_count_106 (by decide) (fun r106 e106 => ?_)
    refine q_callV1 zm_RX11_538 dX11_count_107 (shX_k (w := w) hx) (by decide) rfl (Nat.le_of_ble_eq_true rfl) (Nat.le_of_ble_eq_true rfl) (Nat.le_of_ble_eq_true rfl) (Nat.le_of_ble_eq_true rfl) (Nat.le_of_ble_eq_true rfl) (s_X11_factNow (k := 2) G hx ht (by omega) (by omega) (fun r107 f9_z eF hq9 => ?_))
    refine r_iret dX11_count_110 rfl (Nat.le_of_ble_eq_true rfl) (Nat.le_of_ble_eq_true rfl) ?_
    refine hQ _ _ ?_ hq9
    unfold cntI
    rw [if_neg (by omega), if_neg (by omega), if_neg (by omega), if_pos (by omega)]
    rw [eF]
    congr 1
    omega
  refine n_tabC (k := 6) (t := 111) dX11_count_1 (by decide) rfl (by decide) (fun h1_6 => ?_) (fun h1_6 => ?_)
  · refine r_aloadR0 dX11_count_111 ?_
    refine n_iconst dX11_count_112 (by decide) (fun r112 e112_z => ?_)
    refine q_callV1 zm_RX11_538 dX11_count_113 (shX_k (w := w) hx) (by decide) rfl (Nat.le_of_ble_eq_true rfl) (Nat.le_of_ble_eq_true rfl) (Nat.le_of_ble_eq_true rfl) (Nat.le_of_ble_eq_true rfl) (Nat.le_of_ble_eq_true rfl) (s_X11_factNow (k := 3) G hx ht (by omega) (by omega) (fun r113 f9_z eF hq9 => ?_))
    refine r_iret dX11_count_116 rfl (Nat.le_of_ble_eq_true rfl) (Nat.le_of_ble_eq_true rfl) ?_
    refine hQ _ _ ?_ hq9
    unfold cntI
    rw [if_neg (by omega), if_neg (by omega), if_neg (by omega), if_pos (by omega)]
    rw [eF]
    congr 1
    omega
  refine n_tabC (k := 7) (t := 117) dX11_count_1 (by decide) rfl (by decide) (fun h1_7 => ?_) (fun h1_7 => ?_)
  · refine r_aloadR0 dX11_count_117 ?_
    refine n_iconst dX11_count_118 (by decide) (fun r118 e118_z => ?_)
    refine q_callV1 zm_RX11_538 dX11_count_119 (shX_k (w := w) hx) (by decide) rfl (Nat.le_of_ble_eq_true rfl) (Nat.le_of_ble_eq_true rfl) (Nat.le_of_ble_eq_true rfl) (Nat.le_of_ble_eq_true rfl) (Nat.le_of_ble_eq_true rfl) (s_X11_factNow (k := 4) G hx ht (by omega) (by omega) (fun r119 f9_z eF hq9 => ?_))
    refine r_iret dX11_count_122 rfl (Nat.le_of_ble_eq_true rfl) (Nat.le_of_ble_eq_true rfl) ?_
    refine hQ _ _ ?_ hq9
    unfold cntI
    rw [if_neg (by omega), if_neg (by omega), if_neg (by omega), if_pos (by omega)]
    rw [eF]
    congr 1
    omega
  refine n_tabC (k := 8) (t := 123) dX11_count_1 (by decide) rfl (by decide) (fun h1_8 => ?_) (fun h1_8 => ?_)
  · refine r_aloadR0 dX11_count_123 ?_
    refine n_iconst dX11_count_124 (by decide) (fun r124 e124 => ?_)
    refine q_callV1 zm_RX11_538 dX11_count_125 (shX_k (w := w) hx) (by decide) rfl (Nat.le_of_ble_eq_true rfl) (Nat.le_of_ble_eq_true rfl) (Nat.le_of_ble_eq_true rfl) (Nat.le_of_ble_eq_true rfl) (Nat.le_of_ble_eq_true rfl) (s_X11_factNow (k := 5) G hx ht (by omega) (by omega) (fun r125 f9_z eF hq9 => ?_))
    refine r_iret dX11_count_128 rfl (Nat.le_of_ble_eq_true rfl) (Nat.le_of_ble_eq_true rfl) ?_
    refine hQ _ _ ?_ hq9
    unfold cntI
    rw [if_neg (by omega), if_neg (by omega), if_neg (by omega), if_pos (by omega)]
    rw [eF]
    congr 1
    omega
  refine n_tabC (k := 9) (t := 129) dX11_count_1 (by decide) rfl (by decide) (fun h1_9 => ?_) (fun h1_9 => ?_)
  · refine r_aloadR0 dX11_count_129 ?_
    refine m_getR (q := (X + 11)) zf_RX11_33 rfl dX11_count_130 (shX_k (w := w) hx) (shX_p5 hx) ?_
    refine m_getV (x := (f (X + 11) 3)) zf_RX11_272 rfl dX11_count_133 (shTb_k (shX_tb hx)) (rfl) ?_
    refine r_iret dX11_count_136 rfl (Nat.le_of_ble_eq_true rfl) (Nat.le_of_ble_eq_true rfl) ?_
    refine hQ _ _ ?_ hqr
    unfold cntI
    first
      | (rw [if_pos (by omega)]; first | done | omega)
      | (rw [if_neg (by omega), if_pos (by omega)]; first | done | omega)
      | (rw [if_neg (by omega), if_neg (by omega), if_pos (by omega)]; first | done | omega)
      | (rw [if_neg (by omega), if_neg (by omega), if_neg (by omega), if_neg (by omega), if_pos (by omega)]; first | done | omega)
      | (rw [if_neg (by omega), if_neg (by omega), if_neg (by omega), if_neg (by omega), if_neg (by omega), if_pos (by omega)]; first | done | omega)
      | (rw [if_neg (by omega), if_neg (by omega), if_neg (by omega), if_neg (by omega), if_neg (by omega), if_neg (by omega)]; first | done | omega)
  refine n_tabC (k := 10) (t := 137) dX11_count_1 (by decide) rfl (by decide) (fun h1_10 => ?_) (fun h1_10 => ?_)
  · refine r_aloadR0 dX11_count_137 ?_
    refine m_getV (x := (f X 1)) zf_RX11_13 rfl dX11_count_138 (shX_k (w := w) hx) (rfl) ?_
    refine r_iret dX11_count_141 rfl (Nat.le_of_ble_eq_true rfl) (Nat.le_of_ble_eq_true rfl) ?_
    refine hQ _ _ ?_ hqr
    unfold cntI
    first
      | (rw [if_pos (by omega)]; first | done | omega)
      | (rw [if_neg (by omega), if_pos (by omega)]; first | done | omega)
      | (rw [if_neg (by omega), if_neg (by omega), if_pos (by omega)]; first | done | omega)
      | (rw [if_neg (by omega), if_neg (by omega), if_neg (by omega), if_neg (by omega), if_pos (by omega)]; first | done | omega)
      | (rw [if_neg (by omega), if_neg (by omega), if_neg (by omega), if_neg (by omega), if_neg (by omega), if_pos (by omega)]; first | done | omega)
      | (rw [if_neg (by omega), if_neg (by omega), if_neg (by omega), if_neg (by omega), if_neg (by omega), if_neg (by omega)]; first | done | omega)
  refine n_tabD (t := 142) dX11_count_1 (by decide) (by omega) ?_
  refine n_iconst dX11_count_142 (by decide) (fun r142 e142 => ?_)
  refine r_iret dX11_count_143 rfl (Nat.le_of_ble_eq_true rfl) (Nat.le_of_ble_eq_true rfl) ?_
  refine hQ _ _ ?_ hqr
  unfold cntI
  first
    | (rw [if_pos (by omega)]; first | done | omega)
    | (rw [if_neg (by omega), if_pos (by omega)]; first | done | omega)
    | (rw [if_neg (by omega), if_neg (by omega), if_pos (by omega)]; first | done | omega)
    | (rw [if_neg (by omega), if_neg (by omega), if_neg (by omega), if_neg (by omega), if_pos (by omega)]; first | done | omega)
    | (rw [if_neg (by omega), if_neg (by omega), if_neg (by omega), if_neg (by omega), if_neg (by omega), if_pos (by omega)]; first | done | omega)
    | (rw [if_neg (by omega), if_neg (by omega), if_neg (by omega), if_neg (by omega), if_neg (by omega), if_neg (by omega)]; first | done | omega)
