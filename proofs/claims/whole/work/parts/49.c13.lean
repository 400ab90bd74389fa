/-! the class: trays told, written -/
def onceC (l : List Int) (n : Nat) : Prop := (l.length : Int) = (n : Nat) ∧ (∀ v ∈ l, 0 ≤ v ∧ v < (n : Nat)) ∧ ∀ (i k : Nat) (u v : Int), k < i → l[i]? = some u → l[k]? = some v → u ≠ v
def sightC (l : List Int) : Prop := (1 ≤ l.length ∧ l.length ≤ 6) ∧ ∀ v ∈ l, -1 ≤ v
def copW (s : Nat) (g : Nat → Int) : Nat → List Int → List Int
  | 0, l => l
  | k + 1, l => (copW s g k l).set k (cutI s (g k))
theorem copW_len {s : Nat} {g : Nat → Int} {k : Nat} {l : List Int} : (copW s g k l).length = l.length := by
  induction k with
  | zero => rfl
  | succ k ih =>
    show ((copW s g k l).set k (cutI s (g k))).length = _
    rw [List.length_set, ih]
set_option maxHeartbeats 4000000 in
set_option maxRecDepth 100000 in
theorem s_X11_tray {g : zGT} {w : zW} {f : Nat → Nat → Int32} {j : Nat → Nat → Int64} {X : Nat} {x y z : Int32} {ty : Nat → zTy} {Q : Option Value → zW → Prop} {QX : String → zW → Prop} (G : zGok g) (hx : shX w X) (hty : ∀ i, i < 4 → ctTr f j (X + 231 + 2 * i) (ty i)) (hXNE : ¬ (0 ≤ x.toInt ∧ x.toInt < 4) → ∀ n, zS w ≤ n → QX "java/util/NoSuchElementException" (zsS (zM w f j) n)) (hXIA : (0 ≤ x.toInt ∧ x.toInt < 4) → ¬ ((0 ≤ y.toInt ∧ y.toInt ≤ 3) ∧ 0 ≤ z.toInt ∧ z.toInt ≤ 30) → ∀ n, zS w ≤ n → QX "java/lang/IllegalArgumentException" (zsS (zM w f j) n)) (hQ : (0 ≤ x.toInt ∧ x.toInt < 4) → ((0 ≤ y.toInt ∧ y.toInt ≤ 3) ∧ 0 ≤ z.toInt ∧ z.toInt ≤ 30) → ∀ f2_z j2, ofR f f2_z (X + 231 + 2 * x.toInt.toNat) 1 → (∀ q, q ≠ X + 231 + 2 * x.toInt.toNat + 1 → j2 q = j q) → ctTr f2_z j2 (X + 231 + 2 * x.toInt.toNat) (some (y.toInt.toNat, List.replicate z.toInt.toNat 0)) → Q none (zM w f2_z j2)) : zC g 7 yX11_tray cX11_tray 5 none [.ref X, .int x, .int y, .int z] (zM w f j) (2, 12) Q QX := by
  refine zC_of G (by decide +kernel) (Nat.le_of_ble_eq_true rfl) ?_
  refine r_aloadR0 dX11_tray_0 ?_
  refine r_iload1 dX11_tray_1 ?_
  refine q_callV1 zm_RX11_508 dX11_tray_2 (shX_k (w := w) hx) (by decide) rfl (Nat.le_of_ble_eq_true rfl) (Nat.le_of_ble_eq_true rfl) (Nat.le_of_ble_eq_true rfl) (Nat.le_of_ble_eq_true rfl) (Nat.le_of_ble_eq_true rfl) (s_X11_trayAt G hx (fun hxx n hn => x_out (hXNE hxx n hn) (Nat.le_of_ble_eq_true rfl) (Nat.le_of_ble_eq_true rfl)) (fun hok => ?_))
  have hxk : x.toInt.toNat < 4 := by omega
  have hct := hty _ hxk
  refine r_astore4 dX11_tray_5 rfl ?_
  refine r_iload2 dX11_tray_7 ?_
  refine t_iflt (t := 26) dX11_tray_8 (by decide) (fun h8 => ?_) (fun h8 => ?_)
  · refine r_throwW zth_IA (List.mem_of_getElem? (i := 23) rfl) dX11_tray_26 dX11_tray_29 dX11_tray_30 dX11_tray_33 dX11_tray_36 (Nat.le_of_ble_eq_true rfl) (Nat.le_of_ble_eq_true rfl) (Nat.le_of_ble_eq_true rfl) (Nat.le_of_ble_eq_true rfl) ?_
    exact hXIA hok (by omega)
  · refine r_iload2 dX11_tray_11 ?_
    refine n_iconst dX11_tray_12 (by decide) (fun r12 e12_z => ?_)
    refine t_icgt (t := 26) dX11_tray_13 (by decide) (fun h13 => ?_) (fun h13 => ?_)
    · refine r_throwW zth_IA (List.mem_of_getElem? (i := 23) rfl) dX11_tray_26 dX11_tray_29 dX11_tray_30 dX11_tray_33 dX11_tray_36 (Nat.le_of_ble_eq_true rfl) (Nat.le_of_ble_eq_true rfl) (Nat.le_of_ble_eq_true rfl) (Nat.le_of_ble_eq_true rfl) ?_
      exact hXIA hok (by omega)
    · refine r_iload3 dX11_tray_16 ?_
      refine t_iflt (t := 26) dX11_tray_17 (by decide) (fun h17 => ?_) (fun h17 => ?_)
      · refine r_throwW zth_IA (List.mem_of_getElem? (i := 23) rfl) dX11_tray_26 dX11_tray_29 dX11_tray_30 dX11_tray_33 dX11_tray_36 (Nat.le_of_ble_eq_true rfl) (Nat.le_of_ble_eq_true rfl) (Nat.le_of_ble_eq_true rfl) (Nat.le_of_ble_eq_true rfl) ?_
        exact hXIA hok (by omega)
      · refine r_iload3 dX11_tray_20 ?_
        refine n_bipush dX11_tray_21 (by decide) (fun r21 e21_z => ?_)
        refine t_icle (t := 37) dX11_tray_23 (by decide) (fun h23 => ?_) (fun h23 => ?_)
        · refine r_aloadR4 dX11_tray_37 ?_
          refine r_iload2 dX11_tray_39 ?_
          refine r_iload3 dX11_tray_40 ?_
          refine q_callV2 zm_RX11_513 dX11_tray_41 (shTr_k (w := w) (shX_ty hx hxk).1) (by decide) rfl (Nat.le_of_ble_eq_true rfl) (Nat.le_of_ble_eq_true rfl) (Nat.le_of_ble_eq_true rfl) (Nat.le_of_ble_eq_true rfl) (Nat.le_of_ble_eq_true rfl) (s_X8_clear (s := y.toInt.toNat) (m := z.toInt.toNat) G (shX_ty hx hxk).1 (by omega) (by omega) (by omega) (by omega) (fun f2_z j2 ho1 ho2 hc2 => ?_))
          refine r_vret dX11_tray_44 rfl (Nat.le_of_ble_eq_true rfl) (Nat.le_of_ble_eq_true rfl) ?_
          exact hQ hok (by omega) f2_z j2 ho1 ho2 hc2
        · refine r_throwW zth_IA (List.mem_of_getElem? (i := 23) rfl) dX11_tray_26 dX11_tray_29 dX11_tray_30 dX11_tray_33 dX11_tray_36 (Nat.le_of_ble_eq_true rfl) (Nat.le_of_ble_eq_true rfl) (Nat.le_of_ble_eq_true rfl) (Nat.le_of_ble_eq_true rfl) ?_
          exact hXIA hok (by omega)
set_option maxHeartbeats 4000000 in
set_option maxRecDepth 100000 in
theorem s_X11_write {g : zGT} {w : zW} {f : Nat → Nat → Int32} {j : Nat → Nat → Int64} {X : Nat} {x y : Int32} {v : Int64} {ty : Nat → zTy} {Q : Option Value → zW → Prop} {QX : String → zW → Prop} (G : zGok g) (hx : shX w X) (hty : ∀ i, i < 4 → ctTr f j (X + 231 + 2 * i) (ty i)) (hXNE : ¬ (0 ≤ x.toInt ∧ x.toInt < 4) → ∀ n, zS w ≤ n → QX "java/util/NoSuchElementException" (zsS (zM w f j) n)) (hXIS : (0 ≤ x.toInt ∧ x.toInt < 4) → ty x.toInt.toNat = none → ∀ n, zS w ≤ n → QX "java/lang/IllegalStateException" (zsS (zM w f j) n)) (hXIO : (0 ≤ x.toInt ∧ x.toInt < 4) → ∀ s l, ty x.toInt.toNat = some (s, l) → ¬ (0 ≤ y.toInt ∧ y.toInt < (l.length : Nat)) → ∀ n, zS w ≤ n → QX "java/lang/IndexOutOfBoundsException" (zsS (zM w f j) n)) (hQ : (0 ≤ x.toInt ∧ x.toInt < 4) → ∀ s l, ty x.toInt.toNat = some (s, l) → (0 ≤ y.toInt ∧ y.toInt < (l.length : Nat)) → ∀ (r : Int64) j2, r.toInt = cutI s v.toInt → (∀ q, q ≠ X + 231 + 2 * x.toInt.toNat + 1 → j2 q = j q) → ctTr f j2 (X + 231 + 2 * x.toInt.toNat) (some (s, l.set y.toInt.toNat (cutI s v.toInt))) → Q (some (.long r)) (zM w f j2)) : zC g 8 yX11_write cX11_write 6 (some .long) [.ref X, .int x, .int y, .long v] (zM w f j) (3, 18) Q QX := by
  refine zC_of G (by decide +kernel) (Nat.le_of_ble_eq_true rfl) ?_
  refine r_aloadR0 dX11_write_0 ?_
  refine r_iload1 dX11_write_1 ?_
  refine q_callV1 zm_RX11_280 dX11_write_2 (shX_k (w := w) hx) (by decide) rfl (Nat.le_of_ble_eq_true rfl) (Nat.le_of_ble_eq_true rfl) (Nat.le_of_ble_eq_true rfl) (Nat.le_of_ble_eq_true rfl) (Nat.le_of_ble_eq_true rfl) (s_X11_trayThere G hx hty (fun hxx n hn => x_out (hXNE hxx n hn) (Nat.le_of_ble_eq_true rfl) (Nat.le_of_ble_eq_true rfl)) (fun hxx hyy n hn => x_out (hXIS hxx hyy n hn) (Nat.le_of_ble_eq_true rfl) (Nat.le_of_ble_eq_true rfl)) (fun hok s l hcs => ?_))
  have hxk : x.toInt.toNat < 4 := by omega
  have hct := hty _ hxk
  rw [hcs] at hct
  have hmany : (f (X + 231 + 2 * x.toInt.toNat) 2).toInt = (l.length : Nat) := hct.2.2.2.1
  have hl30 : l.length ≤ 30 := hct.2.2.2.2.1
  refine r_astore5 dX11_write_5 rfl ?_
  refine r_iload2 dX11_write_7 ?_
  refine t_iflt (t := 20) dX11_write_8 (by decide) (fun h8 => ?_) (fun h8 => ?_)
  · refine r_throwW zth_IO (List.mem_of_getElem? (i := 24) rfl) dX11_write_20 dX11_write_23 dX11_write_24 dX11_write_27 dX11_write_30 (Nat.le_of_ble_eq_true rfl) (Nat.le_of_ble_eq_true rfl) (Nat.le_of_ble_eq_true rfl) (Nat.le_of_ble_eq_true rfl) ?_
    exact hXIO hok s l hcs (by omega)
  · refine r_iload2 dX11_write_11 ?_
    refine r_aloadR5 dX11_write_12 ?_
    refine m_getV (x := (f (X + 231 + 2 * x.toInt.toNat) 2)) zf_RX11_289 rfl dX11_write_14 (shTr_k (w := w) (shX_ty hx hxk).1) (rfl) ?_
    refine t_iclt (t := 31) dX11_write_17 (by decide) (fun h17 => ?_) (fun h17 => ?_)
    · refine r_aloadR5 dX11_write_31 ?_
      refine r_iload2 dX11_write_33 ?_
      refine r_lload3 dX11_write_34 ?_
      refine q_callV2 zm_RX11_521 dX11_write_35 (shTr_k (w := w) (shX_ty hx hxk).1) (by decide) rfl (Nat.le_of_ble_eq_true rfl) (Nat.le_of_ble_eq_true rfl) (Nat.le_of_ble_eq_true rfl) (Nat.le_of_ble_eq_true rfl) (Nat.le_of_ble_eq_true rfl) (s_X8_put (k := y.toInt.toNat) (l := l) (s := s) G (shX_ty hx hxk).1 hct (by omega) (by omega) (fun r35 j2 e35 hc2 ho2 => ?_))
      refine r_lret dX11_write_38 rfl (Nat.le_of_ble_eq_true rfl) (Nat.le_of_ble_eq_true rfl) ?_
      exact hQ hok s l hcs (by omega) _ j2 e35 ho2 hc2
    · refine r_throwW zth_IO (List.mem_of_getElem? (i := 24) rfl) dX11_write_20 dX11_write_23 dX11_write_24 dX11_write_27 dX11_write_30 (Nat.le_of_ble_eq_true rfl) (Nat.le_of_ble_eq_true rfl) (Nat.le_of_ble_eq_true rfl) (Nat.le_of_ble_eq_true rfl) ?_
      exact hXIO hok s l hcs (by omega)
set_option maxHeartbeats 4000000 in
set_option maxRecDepth 100000 in
theorem s_X11_stackIn {g : zGT} {w : zW} {f : Nat → Nat → Int32} {j : Nat → Nat → Int64} {X : Nat} {T : zTb} {x : Int32} {ty : Nat → zTy} {Q : Option Value → zW → Prop} {QX : String → zW → Prop} (G : zGok g) (hx : shX w X) (ht : tbAt w f X (X + 11) T) (hty : ∀ i, i < 4 → ctTr f j (X + 231 + 2 * i) (ty i)) (hXNE : ¬ (0 ≤ x.toInt ∧ x.toInt < 4) → ∀ n, zS w ≤ n → QX "java/util/NoSuchElementException" (zsS (zM w f j) n)) (hXIS : (0 ≤ x.toInt ∧ x.toInt < 4) → ty x.toInt.toNat = none → ∀ n, zS w ≤ n → QX "java/lang/IllegalStateException" (zsS (zM w f j) n)) (hXIA : (0 ≤ x.toInt ∧ x.toInt < 4) → ∀ s l, ty x.toInt.toNat = some (s, l) → ¬ (onceC l (tbC T)) → ∀ n, zS w ≤ n → QX "java/lang/IllegalArgumentException" (zsS (zM w f j) n)) (hQ : (0 ≤ x.toInt ∧ x.toInt < 4) → ∀ s l, ty x.toInt.toNat = some (s, l) → (onceC l (tbC T)) → Q (some (.ref (X + 231 + 2 * x.toInt.toNat))) (zM w f j)) : zC g 8 yX11_stackIn cX11_stackIn 3 (some (.object "NapkinDeeds$Tray")) [.ref X, .int x] (zM w f j) (3, 18) Q QX := by
  refine zC_of G (by decide +kernel) (Nat.le_of_ble_eq_true rfl) ?_
  have ht0 := ht
  obtain ⟨nq, pp, g0, p0, hnq, hna0, hpp, hctb, hpast, hwf⟩ := ht0
  have hna1 := hna0
  obtain ⟨hna, hcn, ⟨hz1, hz2, hz3⟩, hl1, hl2, hl3⟩ := hna0
  have hmo := hctb.2.2.1
  have hn6 : tbC T ≤ 6 := hwf.2.1
  have hg4 : tbG T ≤ 4 := hwf.2.2.1
  have hwm := hwf.2.2.2.2.2.2.2.1
  have hrt := wfT_rch hwf
  have hfl : (f (X + 11 + 7) 2).toInt = (T.2.2.1.2.length : Nat) := by rw [hmo.1]; have := hmo.2.1; exact zi_n (by omega)
  have hcells : (f nq 1).toInt = (tbC T : Nat) := by rw [hcn.2.1]; exact zi_n (n := tbC T) (by omega)
  have hgs : (f nq 2).toInt = (tbG T : Nat) := by rw [hcn.2.2.1]; exact zi_n (n := tbG T) (by omega)
  refine r_aloadR0 dX11_stackIn_0 ?_
  refine r_iload1 dX11_stackIn_1 ?_
  refine q_callV1 zm_RX11_280 dX11_stackIn_2 (shX_k (w := w) hx) (by decide) rfl (Nat.le_of_ble_eq_true rfl) (Nat.le_of_ble_eq_true rfl) (Nat.le_of_ble_eq_true rfl) (Nat.le_of_ble_eq_true rfl) (Nat.le_of_ble_eq_true rfl) (s_X11_trayThere G hx hty (fun hxx n hn => x_out (hXNE hxx n hn) (Nat.le_of_ble_eq_true rfl) (Nat.le_of_ble_eq_true rfl)) (fun hxx hyy n hn => x_out (hXIS hxx hyy n hn) (Nat.le_of_ble_eq_true rfl) (Nat.le_of_ble_eq_true rfl)) (fun hok s l hcs => ?_))
  have hxk : x.toInt.toNat < 4 := by omega
  have hct := hty _ hxk
  rw [hcs] at hct
  have hmany : (f (X + 231 + 2 * x.toInt.toNat) 2).toInt = (l.length : Nat) := hct.2.2.2.1
  have hl30 : l.length ≤ 30 := hct.2.2.2.2.1
  refine r_astore2 dX11_stackIn_5 rfl ?_
  refine r_aloadR2 dX11_stackIn_6 ?_
  refine r_aloadR0 dX11_stackIn_7 ?_
  refine m_getR (q := (X + 11)) zf_RX11_33 rfl dX11_stackIn_8 (shX_k (w := w) hx) (shX_p5 hx) ?_
  refine m_getR (q := nq) zf_RX11_181 rfl dX11_stackIn_11 (shTb_k (shX_tb hx)) hnq ?_
  refine m_getV (x := (f nq 1)) zf_RX11_185 rfl dX11_stackIn_14 (shNa_k hna) (rfl) ?_
  refine q_callV1 zm_RX11_462 dX11_stackIn_17 (shTr_k (w := w) (shX_ty hx hxk).1) (by decide) rfl (Nat.le_of_ble_eq_true rfl) (Nat.le_of_ble_eq_true rfl) (Nat.le_of_ble_eq_true rfl) (Nat.le_of_ble_eq_true rfl) (Nat.le_of_ble_eq_true rfl) (s_X8_tellsEachOnce (n := tbC T) G (shX_ty hx hxk).1 hct (by omega) (by omega) (fun r17 e17_z => ?_))
  refine t_ifne (t := 34) dX11_stackIn_20 (by decide) (fun h20 => ?_) (fun h20 => ?_)
  · refine r_aloadR2 dX11_stackIn_34 ?_
    refine r_aret dX11_stackIn_35 rfl (by first | exact Or.inl ⟨_, rfl⟩ | exact Or.inr ⟨_, rfl⟩) (by first | exact zrf_r | exact zrf_o | exact zrf_n) (Nat.le_of_ble_eq_true rfl) (Nat.le_of_ble_eq_true rfl) ?_
    refine hQ hok s l hcs ?_
    rcases e17_z with ⟨_, h92⟩ | ⟨h91, _⟩
    · exact h92
    · omega
  · refine r_throwW zth_IA (List.mem_of_getElem? (i := 20) rfl) dX11_stackIn_23 dX11_stackIn_26 dX11_stackIn_27 dX11_stackIn_30 dX11_stackIn_33 (Nat.le_of_ble_eq_true rfl) (Nat.le_of_ble_eq_true rfl) (Nat.le_of_ble_eq_true rfl) (Nat.le_of_ble_eq_true rfl) ?_
    refine hXIA hok s l hcs (fun h9 => ?_)
    rcases e17_z with ⟨h91, _⟩ | ⟨_, h92⟩
    · omega
    · exact h92 h9
set_option maxHeartbeats 4000000 in
set_option maxRecDepth 100000 in
theorem s_X11_creasesIn {g : zGT} {w : zW} {f : Nat → Nat → Int32} {j : Nat → Nat → Int64} {X : Nat} {T : zTb} {x : Int32} {ty : Nat → zTy} {Q : Option Value → zW → Prop} {QX : String → zW → Prop} (G : zGok g) (hx : shX w X) (ht : tbAt w f X (X + 11) T) (hty : ∀ i, i < 4 → ctTr f j (X + 231 + 2 * i) (ty i)) (hXNE : ¬ (0 ≤ x.toInt ∧ x.toInt < 4) → ∀ n, zS w ≤ n → QX "java/util/NoSuchElementException" (zsS (zM w f j) n)) (hXIS : (0 ≤ x.toInt ∧ x.toInt < 4) → ty x.toInt.toNat = none → ∀ n, zS w ≤ n → QX "java/lang/IllegalStateException" (zsS (zM w f j) n)) (hXIA : (0 ≤ x.toInt ∧ x.toInt < 4) → ∀ s l, ty x.toInt.toNat = some (s, l) → ¬ (l.length = tbC T - 1 ∧ ∀ v ∈ l, 0 ≤ v ∧ v ≤ 2) → ∀ n, zS w ≤ n → QX "java/lang/IllegalArgumentException" (zsS (zM w f j) n)) (hQ : (0 ≤ x.toInt ∧ x.toInt < 4) → ∀ s l, ty x.toInt.toNat = some (s, l) → (l.length = tbC T - 1 ∧ ∀ v ∈ l, 0 ≤ v ∧ v ≤ 2) → Q (some (.ref (X + 231 + 2 * x.toInt.toNat))) (zM w f j)) : zC g 8 yX11_creasesIn cX11_creasesIn 3 (some (.object "NapkinDeeds$Tray")) [.ref X, .int x] (zM w f j) (3, 18) Q QX := by
  refine zC_of G (by decide +kernel) (Nat.le_of_ble_eq_true rfl) ?_
  have ht0 := ht
  obtain ⟨nq, pp, g0, p0, hnq, hna0, hpp, hctb, hpast, hwf⟩ := ht0
  have hna1 := hna0
  obtain ⟨hna, hcn, ⟨hz1, hz2, hz3⟩, hl1, hl2, hl3⟩ := hna0
  have hmo := hctb.2.2.1
  have hn6 : tbC T ≤ 6 := hwf.2.1
  have hg4 : tbG T ≤ 4 := hwf.2.2.1
  have hwm := hwf.2.2.2.2.2.2.2.1
  have hrt := wfT_rch hwf
  have hfl : (f (X + 11 + 7) 2).toInt = (T.2.2.1.2.length : Nat) := by rw [hmo.1]; have := hmo.2.1; exact zi_n (by omega)
  have hcells : (f nq 1).toInt = (tbC T : Nat) := by rw [hcn.2.1]; exact zi_n (n := tbC T) (by omega)
  have hgs : (f nq 2).toInt = (tbG T : Nat) := by rw [hcn.2.2.1]; exact zi_n (n := tbG T) (by omega)
  refine r_aloadR0 dX11_creasesIn_0 ?_
  refine r_iload1 dX11_creasesIn_1 ?_
  refine q_callV1 zm_RX11_280 dX11_creasesIn_2 (shX_k (w := w) hx) (by decide) rfl (Nat.le_of_ble_eq_true rfl) (Nat.le_of_ble_eq_true rfl) (Nat.le_of_ble_eq_true rfl) (Nat.le_of_ble_eq_true rfl) (Nat.le_of_ble_eq_true rfl) (s_X11_trayThere G hx hty (fun hxx n hn => x_out (hXNE hxx n hn) (Nat.le_of_ble_eq_true rfl) (Nat.le_of_ble_eq_true rfl)) (fun hxx hyy n hn => x_out (hXIS hxx hyy n hn) (Nat.le_of_ble_eq_true rfl) (Nat.le_of_ble_eq_true rfl)) (fun hok s l hcs => ?_))
  have hxk : x.toInt.toNat < 4 := by omega
  have hct := hty _ hxk
  rw [hcs] at hct
  have hmany : (f (X + 231 + 2 * x.toInt.toNat) 2).toInt = (l.length : Nat) := hct.2.2.2.1
  have hl30 : l.length ≤ 30 := hct.2.2.2.2.1
  refine r_astore2 dX11_creasesIn_5 rfl ?_
  refine r_aloadR2 dX11_creasesIn_6 ?_
  refine m_getV (x := (f (X + 231 + 2 * x.toInt.toNat) 2)) zf_RX11_289 rfl dX11_creasesIn_7 (shTr_k (w := w) (shX_ty hx hxk).1) (rfl) ?_
  refine n_iconst dX11_creasesIn_10 (by decide) (fun r10 e10_z => ?_)
  refine r_aloadR0 dX11_creasesIn_11 ?_
  refine m_getR (q := (X + 11)) zf_RX11_33 rfl dX11_creasesIn_12 (shX_k (w := w) hx) (shX_p5 hx) ?_
  refine m_getR (q := nq) zf_RX11_181 rfl dX11_creasesIn_15 (shTb_k (shX_tb hx)) hnq ?_
  refine m_getV (x := (f nq 1)) zf_RX11_185 rfl dX11_creasesIn_18 (shNa_k hna) (rfl) ?_
  refine n_iconst dX11_creasesIn_21 (by decide) (fun r21 e21_z => ?_)
  refine n_isub dX11_creasesIn_22 (by omega) (fun r22 e22_z => ?_)
  refine r_mmax zm_RX11_346 dX11_creasesIn_23 (Nat.le_of_ble_eq_true rfl) (Nat.le_of_ble_eq_true rfl) (Nat.le_of_ble_eq_true rfl) (Nat.le_of_ble_eq_true rfl) (Nat.le_of_ble_eq_true rfl) (fun r23 e23_z => ?_)
  refine t_icne (t := 40) dX11_creasesIn_26 (by decide) (fun h26 => ?_) (fun h26 => ?_)
  · refine r_throwW zth_IA (List.mem_of_getElem? (i := 21) rfl) dX11_creasesIn_40 dX11_creasesIn_43 dX11_creasesIn_44 dX11_creasesIn_47 dX11_creasesIn_50 (Nat.le_of_ble_eq_true rfl) (Nat.le_of_ble_eq_true rfl) (Nat.le_of_ble_eq_true rfl) (Nat.le_of_ble_eq_true rfl) ?_
    first
      | (exact hXIA hok s l hcs (fun h9 => absurd h9.1 (by omega)))
      | (refine hXIA hok s l hcs (fun h9 => ?_)
         rcases e34 with ⟨h91, _⟩ | ⟨_, h92⟩
         · omega
         · exact h92 (fun v hv => by have := h9.2 v hv; omega))
  · refine r_aloadR2 dX11_creasesIn_29 ?_
    refine n_lconst (q := 0) dX11_creasesIn_30 rfl (by decide) (fun r30 e30 => ?_)
    refine n_ldc2 (n := 2) zk_RX11_467 dX11_creasesIn_31 (by decide) (fun r31 e31_z => ?_)
    refine q_callV2 zm_RX11_469 dX11_creasesIn_34 (shTr_k (w := w) (shX_ty hx hxk).1) (by decide) rfl (Nat.le_of_ble_eq_true rfl) (Nat.le_of_ble_eq_true rfl) (Nat.le_of_ble_eq_true rfl) (Nat.le_of_ble_eq_true rfl) (Nat.le_of_ble_eq_true rfl) (s_X8_tellsWithin G (shX_ty hx hxk).1 hct (fun r34 e34 => ?_))
    refine t_ifne (t := 51) dX11_creasesIn_37 (by decide) (fun h37 => ?_) (fun h37 => ?_)
    · refine r_aloadR2 dX11_creasesIn_51 ?_
      refine r_aret dX11_creasesIn_52 rfl (by first | exact Or.inl ⟨_, rfl⟩ | exact Or.inr ⟨_, rfl⟩) (by first | exact zrf_r | exact zrf_o | exact zrf_n) (Nat.le_of_ble_eq_true rfl) (Nat.le_of_ble_eq_true rfl) ?_
      refine hQ hok s l hcs ⟨by omega, ?_⟩
      rcases e34 with ⟨_, h92⟩ | ⟨h91, _⟩
      · intro v hv; have := h92 v hv; omega
      · omega
    · refine r_throwW zth_IA (List.mem_of_getElem? (i := 21) rfl) dX11_creasesIn_40 dX11_creasesIn_43 dX11_creasesIn_44 dX11_creasesIn_47 dX11_creasesIn_50 (Nat.le_of_ble_eq_true rfl) (Nat.le_of_ble_eq_true rfl) (Nat.le_of_ble_eq_true rfl) (Nat.le_of_ble_eq_true rfl) ?_
      first
        | (exact hXIA hok s l hcs (fun h9 => absurd h9.1 (by omega)))
        | (refine hXIA hok s l hcs (fun h9 => ?_)
           rcases e34 with ⟨h91, _⟩ | ⟨_, h92⟩
           · omega
           · exact h92 (fun v hv => by have := h9.2 v hv; omega))
set_option maxHeartbeats 4000000 in
set_option maxRecDepth 100000 in
theorem s_X11_sightIn {g : zGT} {w : zW} {f : Nat → Nat → Int32} {j : Nat → Nat → Int64} {X : Nat} {x y : Int32} {ty : Nat → zTy} {Q : Option Value → zW → Prop} {QX : String → zW → Prop} (G : zGok g) (hx : shX w X) (hty : ∀ i, i < 4 → ctTr f j (X + 231 + 2 * i) (ty i)) (hXNE : ¬ (0 ≤ x.toInt ∧ x.toInt < 4) → ∀ n, zS w ≤ n → QX "java/util/NoSuchElementException" (zsS (zM w f j) n)) (hXIS : (0 ≤ x.toInt ∧ x.toInt < 4) → ty x.toInt.toNat = none → ∀ n, zS w ≤ n → QX "java/lang/IllegalStateException" (zsS (zM w f j) n)) (hXIA : (0 ≤ x.toInt ∧ x.toInt < 4) → ∀ s l, ty x.toInt.toNat = some (s, l) → ¬ (sightC l ∧ 0 ≤ y.toInt ∧ y.toInt ≤ 4) → ∀ n, zS w ≤ n → QX "java/lang/IllegalArgumentException" (zsS (zM w f j) n)) (hQ : (0 ≤ x.toInt ∧ x.toInt < 4) → ∀ s l, ty x.toInt.toNat = some (s, l) → (sightC l ∧ 0 ≤ y.toInt ∧ y.toInt ≤ 4) → Q (some (.ref (X + 231 + 2 * x.toInt.toNat))) (zM w f j)) : zC g 8 yX11_sightIn cX11_sightIn 4 (some (.object "NapkinDeeds$Tray")) [.ref X, .int x, .int y] (zM w f j) (3, 18) Q QX := by
  refine zC_of G (by decide +kernel) (Nat.le_of_ble_eq_true rfl) ?_
  refine r_aloadR0 dX11_sightIn_0 ?_
  refine r_iload1 dX11_sightIn_1 ?_
  refine q_callV1 zm_RX11_280 dX11_sightIn_2 (shX_k (w := w) hx) (by decide) rfl (Nat.le_of_ble_eq_true rfl) (Nat.le_of_ble_eq_true rfl) (Nat.le_of_ble_eq_true rfl) (Nat.le_of_ble_eq_true rfl) (Nat.le_of_ble_eq_true rfl) (s_X11_trayThere G hx hty (fun hxx n hn => x_out (hXNE hxx n hn) (Nat.le_of_ble_eq_true rfl) (Nat.le_of_ble_eq_true rfl)) (fun hxx hyy n hn => x_out (hXIS hxx hyy n hn) (Nat.le_of_ble_eq_true rfl) (Nat.le_of_ble_eq_true rfl)) (fun hok s l hcs => ?_))
  have hxk : x.toInt.toNat < 4 := by omega
  have hct := hty _ hxk
  rw [hcs] at hct
  have hmany : (f (X + 231 + 2 * x.toInt.toNat) 2).toInt = (l.length : Nat) := hct.2.2.2.1
  have hl30 : l.length ≤ 30 := hct.2.2.2.2.1
  refine r_astore3 dX11_sightIn_5 rfl ?_
  refine r_aloadR3 dX11_sightIn_6 ?_
  refine q_callV0 zm_RX11_403 dX11_sightIn_7 (shTr_k (w := w) (shX_ty hx hxk).1) (by decide) rfl (Nat.le_of_ble_eq_true rfl) (Nat.le_of_ble_eq_true rfl) (Nat.le_of_ble_eq_true rfl) (Nat.le_of_ble_eq_true rfl) (Nat.le_of_ble_eq_true rfl) (s_X8_tellsSight G (shX_ty hx hxk).1 hct (fun r7 e7_z => ?_))
  refine t_ifeq (t := 22) dX11_sightIn_10 (by decide) (fun h10 => ?_) (fun h10 => ?_)
  · refine r_throwW zth_IA (List.mem_of_getElem? (i := 22) rfl) dX11_sightIn_22 dX11_sightIn_25 dX11_sightIn_26 dX11_sightIn_29 dX11_sightIn_32 (Nat.le_of_ble_eq_true rfl) (Nat.le_of_ble_eq_true rfl) (Nat.le_of_ble_eq_true rfl) (Nat.le_of_ble_eq_true rfl) ?_
    refine hXIA hok s l hcs (fun h9 => ?_)
    rcases e7_z with ⟨h91, _⟩ | ⟨_, h92⟩
    · omega
    · first | omega | exact h92 h9.1
  · refine r_iload2 dX11_sightIn_13 ?_
    refine t_iflt (t := 22) dX11_sightIn_14 (by decide) (fun h14 => ?_) (fun h14 => ?_)
    · refine r_throwW zth_IA (List.mem_of_getElem? (i := 22) rfl) dX11_sightIn_22 dX11_sightIn_25 dX11_sightIn_26 dX11_sightIn_29 dX11_sightIn_32 (Nat.le_of_ble_eq_true rfl) (Nat.le_of_ble_eq_true rfl) (Nat.le_of_ble_eq_true rfl) (Nat.le_of_ble_eq_true rfl) ?_
      refine hXIA hok s l hcs (fun h9 => ?_)
      rcases e7_z with ⟨h91, _⟩ | ⟨_, h92⟩
      · omega
      · first | omega | exact h92 h9.1
    · refine r_iload2 dX11_sightIn_17 ?_
      refine n_iconst dX11_sightIn_18 (by decide) (fun r18 e18_z => ?_)
      refine t_icle (t := 33) dX11_sightIn_19 (by decide) (fun h19 => ?_) (fun h19 => ?_)
      · refine r_aloadR3 dX11_sightIn_33 ?_
        refine r_aret dX11_sightIn_34 rfl (by first | exact Or.inl ⟨_, rfl⟩ | exact Or.inr ⟨_, rfl⟩) (by first | exact zrf_r | exact zrf_o | exact zrf_n) (Nat.le_of_ble_eq_true rfl) (Nat.le_of_ble_eq_true rfl) ?_
        refine hQ hok s l hcs ⟨?_, by omega, by omega⟩
        rcases e7_z with ⟨_, h92⟩ | ⟨h91, _⟩
        · exact h92
        · omega
      · refine r_throwW zth_IA (List.mem_of_getElem? (i := 22) rfl) dX11_sightIn_22 dX11_sightIn_25 dX11_sightIn_26 dX11_sightIn_29 dX11_sightIn_32 (Nat.le_of_ble_eq_true rfl) (Nat.le_of_ble_eq_true rfl) (Nat.le_of_ble_eq_true rfl) (Nat.le_of_ble_eq_true rfl) ?_
        refine hXIA hok s l hcs (fun h9 => ?_)
        rcases e7_z with ⟨h91, _⟩ | ⟨_, h92⟩
        · omega
        · first | omega | exact h92 h9.1
set_option maxHeartbeats 4000000 in
set_option maxRecDepth 100000 in
theorem s_X11_copy {g : zGT} {w : zW} {f : Nat → Nat → Int32} {j : Nat → Nat → Int64} {X : Nat} {T : zTb} {x : Int32} {ty : Nat → zTy} {Q : Option Value → zW → Prop} {QX : String → zW → Prop} (G : zGok g) (hx : shX w X) (ht : tbAt w f X (X + 11) T) (hty : ∀ i, i < 4 → ctTr f j (X + 231 + 2 * i) (ty i)) (hXNE : ¬ (0 ≤ x.toInt ∧ x.toInt < 4) → ∀ n, zS w ≤ n → QX "java/util/NoSuchElementException" (zsS (zM w f j) n)) (hXIS : (0 ≤ x.toInt ∧ x.toInt < 4) → ty x.toInt.toNat = none → ∀ n, zS w ≤ n → QX "java/lang/IllegalStateException" (zsS (zM w f j) n)) (hQ : (0 ≤ x.toInt ∧ x.toInt < 4) → ∀ s l, ty x.toInt.toNat = some (s, l) → ∀ (r : Int32) f2_z j2, r.toInt = ((min l.length (tbL T).length) : Nat) → ofR f f2_z (X + 93) 8 → (∀ q, q ≠ X + 231 + 2 * x.toInt.toNat + 1 → j2 q = j q) → ctTr f2_z j2 (X + 231 + 2 * x.toInt.toNat) (some (s, copW s (fun i => ((seenA T.2.2.1.1 (tbL T) i : Nat) : Int)) (min l.length (tbL T).length) l)) → Q (some (.int r)) (zM w f2_z j2)) : zC g 8 yX11_copy cX11_copy 6 (some .int) [.ref X, .int x] (zM w f j) (2, 12) Q QX := by
  refine zC_of G (by decide +kernel) (Nat.le_of_ble_eq_true rfl) ?_
  have ht0 := ht
  obtain ⟨nq, pp, g0, p0, hnq, hna0, hpp, hctb, hpast, hwf⟩ := ht0
  have hna1 := hna0
  obtain ⟨hna, hcn, ⟨hz1, hz2, hz3⟩, hl1, hl2, hl3⟩ := hna0
  have hmo := hctb.2.2.1
  have hn6 : tbC T ≤ 6 := hwf.2.1
  have hg4 : tbG T ≤ 4 := hwf.2.2.1
  have hwm := hwf.2.2.2.2.2.2.2.1
  have hrt := wfT_rch hwf
  have hfl : (f (X + 11 + 7) 2).toInt = (T.2.2.1.2.length : Nat) := by rw [hmo.1]; have := hmo.2.1; exact zi_n (by omega)
  have hcells : (f nq 1).toInt = (tbC T : Nat) := by rw [hcn.2.1]; exact zi_n (n := tbC T) (by omega)
  have hgs : (f nq 2).toInt = (tbG T : Nat) := by rw [hcn.2.2.1]; exact zi_n (n := tbG T) (by omega)
  have hcell := rch_cell hrt
  refine r_aloadR0 dX11_copy_0 ?_
  refine r_iload1 dX11_copy_1 ?_
  refine q_callV1 zm_RX11_280 dX11_copy_2 (shX_k (w := w) hx) (by decide) rfl (Nat.le_of_ble_eq_true rfl) (Nat.le_of_ble_eq_true rfl) (Nat.le_of_ble_eq_true rfl) (Nat.le_of_ble_eq_true rfl) (Nat.le_of_ble_eq_true rfl) (s_X11_trayThere G hx hty (fun hxx n hn => x_out (hXNE hxx n hn) (Nat.le_of_ble_eq_true rfl) (Nat.le_of_ble_eq_true rfl)) (fun hxx hyy n hn => x_out (hXIS hxx hyy n hn) (Nat.le_of_ble_eq_true rfl) (Nat.le_of_ble_eq_true rfl)) (fun hok s l hcs => ?_))
  have hxk : x.toInt.toNat < 4 := by omega
  have hct := hty _ hxk
  rw [hcs] at hct
  have hmany : (f (X + 231 + 2 * x.toInt.toNat) 2).toInt = (l.length : Nat) := hct.2.2.2.1
  have hl30 : l.length ≤ 30 := hct.2.2.2.2.1
  refine r_astore2 dX11_copy_5 rfl ?_
  refine r_aloadR0 dX11_copy_6 ?_
  refine q_callV0 zm_RX11_134 dX11_copy_7 (shX_k (w := w) hx) (by decide) rfl (Nat.le_of_ble_eq_true rfl) (Nat.le_of_ble_eq_true rfl) (Nat.le_of_ble_eq_true rfl) (Nat.le_of_ble_eq_true rfl) (Nat.le_of_ble_eq_true rfl) (s_X11_layNow G hx ht (fun f1_z ho1 hla => ?_))
  have hw9 : (f1_z (X + 93) 4).toInt = ((tbL T).length : Nat) := by rw [hla.2.1]; have := rch_le hrt; exact zi_n (by omega)
  have hmo1 : ctMo f1_z (X + 11 + 7) T.2.2.1 := ctMo_R hmo ho1 (by omega)
  have hct1 : ctTr f1_z j (X + 231 + 2 * x.toInt.toNat) (some (s, l)) := ctTr_of hct (ho1 _ (by omega)) rfl
  have hmany1 : (f1_z (X + 231 + 2 * x.toInt.toNat) 2).toInt = (l.length : Nat) := hct1.2.2.2.1
  have lp : ∀ (mz : Nat) (m : Int32) (c : Int32) (k : Nat) (j2 : Nat → Nat → Int64), c.toInt = (k : Nat) → k ≤ (min l.length (tbL T).length) → m.toInt = ((min l.length (tbL T).length) : Nat) → (∀ q, q ≠ X + 231 + 2 * x.toInt.toNat + 1 → j2 q = j q) → ctTr f1_z j2 (X + 231 + 2 * x.toInt.toNat) (some (s, copW s (fun i => ((seenA T.2.2.1.1 (tbL T) i : Nat) : Int)) k l)) → (min l.length (tbL T).length) - k < mz → zR (zV g 8 yX11_copy 6 (some .int) (2, 12) Q QX) cX11_copy yX11_copy.cls 27 [some (.ref X), some (.int x), some (.ref (X + 231 + 2 * x.toInt.toNat)), some (.ref (X + 93)), some (.int m), some (.int c)] [] (zM w f1_z j2) (2, 12) := by
    intro mz
    induction mz with
    | zero =>
      intro m c k j2 hck hk hm9 hj9 hcp hmz
      exact absurd hmz (Nat.not_lt_zero _)
    | succ mz ih =>
      intro m c k j2 hck hk hm9 hj9 hcp hmz
      rcases Nat.lt_or_ge k (min l.length (tbL T).length) with hkl | hkl
      · obtain ⟨C, p, k1_z, k2_z, k3_z, k4_z, q, D, k5_z, k6_z⟩ := col_ne hrt (c := k) (by omega)
        obtain ⟨col, hcol⟩ : ∃ col, (tbL T)[k]? = some col := ⟨_, List.getElem?_eq_getElem (by omega)⟩
        have hzc := zcol_at hcol
        have hcc : (tbL T)[k]? = some (C ++ [p]) := by rw [hcol, ← hzc, k1_z]
        have hsa : seenA T.2.2.1.1 (tbL T) k = mkAb T.2.2.1.1 p := seenA_of k1_z
        refine r_iload5 dX11_copy_27 ?_
        refine r_iload4 dX11_copy_29 ?_
        refine t_icge (t := 64) dX11_copy_31 (by decide) (fun h31 => False.elim (by omega)) (fun h31 => ?_)
        refine r_aloadR2 dX11_copy_34 ?_
        refine r_iload5 dX11_copy_35 ?_
        refine r_aloadR3 dX11_copy_37 ?_
        refine r_iload5 dX11_copy_38 ?_
        refine r_aloadR0 dX11_copy_40 ?_
        refine m_getR (q := (X + 11)) zf_RX11_33 rfl dX11_copy_41 (shX_k (w := w) hx) (shX_p5 hx) ?_
        refine m_getR (q := ((X + 11) + 7)) zf_RX11_138 rfl dX11_copy_44 (shTb_k (shX_tb hx)) (shTb_p1 (shX_tb hx)) ?_
        refine m_getR (q := (((X + 11) + 7) + 1)) zf_RX11_171 rfl dX11_copy_47 (shMo_k (shTb_mo (shX_tb hx))) (shMo_p0 (shTb_mo (shX_tb hx))) ?_
        refine q_callV2 zm_RX11_174 dX11_copy_50 (shLay_k (shX_ly hx)) (by decide) rfl (Nat.le_of_ble_eq_true rfl) (Nat.le_of_ble_eq_true rfl) (Nat.le_of_ble_eq_true rfl) (Nat.le_of_ble_eq_true rfl) (Nat.le_of_ble_eq_true rfl) (s_X2_markAbove (w := zM w f1_z j2) (k := k) (C := C) (p := p) G (shX_ly hx) hla (rch_bd hrt) hcc (zi_of hck (by omega)) (shMo_k1 (shTb_mo (shX_tb hx))) (shMo_n1 (shTb_mo (shX_tb hx))) (fun r50 e50 => ?_))
        have e50b : r50.toInt = (seenA T.2.2.1.1 (tbL T) k : Nat) := by
          rw [hsa, e50]
          exact moRow hmo1 hwm.2.2 _ (by split <;> omega)
        refine n_i2l dX11_copy_53 (fun r53 e53 => ?_)
        refine q_callV2 zm_RX11_521 dX11_copy_54 (shTr_k (w := w) (shX_ty hx hxk).1) (by decide) rfl (Nat.le_of_ble_eq_true rfl) (Nat.le_of_ble_eq_true rfl) (Nat.le_of_ble_eq_true rfl) (Nat.le_of_ble_eq_true rfl) (Nat.le_of_ble_eq_true rfl) (s_X8_put (k := k) (l := copW s (fun i => ((seenA T.2.2.1.1 (tbL T) i : Nat) : Int)) k l) (s := s) G (shX_ty hx hxk).1 hcp hck (by rw [copW_len]; omega) (fun r54 j3 e54 hc3 ho3 => ?_))
        refine r_pop2L dX11_copy_57 rfl ?_
        refine n_iinc5 dX11_copy_58 (by decide) rfl (by omega) (fun r58 e58 => ?_)
        refine r_goto (t := 27) dX11_copy_61 (by decide) ?_
        refine ih _ _ (k + 1) j3 (by omega) (by omega) hm9 (fun q hq => (ho3 q hq).trans (hj9 q hq)) ?_ (by omega)
        have hcw : copW s (fun i => ((seenA T.2.2.1.1 (tbL T) i : Nat) : Int)) (k + 1) l = (copW s (fun i => ((seenA T.2.2.1.1 (tbL T) i : Nat) : Int)) k l).set k (cutI s (seenA T.2.2.1.1 (tbL T) k : Nat)) := rfl
        rw [hcw, ← e50b, ← e53]
        exact hc3
      · refine r_iload5 dX11_copy_27 ?_
        refine r_iload4 dX11_copy_29 ?_
        refine t_icge (t := 64) dX11_copy_31 (by decide) (fun h31 => ?_) (fun h31 => False.elim (by omega))
        refine r_iload4 dX11_copy_64 ?_
        refine r_iret dX11_copy_66 rfl (Nat.le_of_ble_eq_true rfl) (Nat.le_of_ble_eq_true rfl) ?_
        have hke : k = (min l.length (tbL T).length) := by omega
        rw [hke] at hcp
        exact hQ hok s l hcs _ f1_z j2 hm9 ho1 hj9 hcp
  refine r_astore3 dX11_copy_10 rfl ?_
  refine r_aloadR2 dX11_copy_11 ?_
  refine m_getV (x := (f1_z (X + 231 + 2 * x.toInt.toNat) 2)) zf_RX11_289 rfl dX11_copy_12 (shTr_k (w := w) (shX_ty hx hxk).1) (rfl) ?_
  refine r_aloadR3 dX11_copy_15 ?_
  refine m_getV (x := (f1_z (X + 93) 4)) zf_RX11_217 rfl dX11_copy_16 (shLay_k (shX_ly hx)) (rfl) ?_
  refine r_mmin zm_RX11_479 dX11_copy_19 (Nat.le_of_ble_eq_true rfl) (Nat.le_of_ble_eq_true rfl) (Nat.le_of_ble_eq_true rfl) (Nat.le_of_ble_eq_true rfl) (Nat.le_of_ble_eq_true rfl) (fun r19 e19_z => ?_)
  refine r_istore4 dX11_copy_22 rfl ?_
  refine n_iconst dX11_copy_24 (by decide) (fun r24 e24_z => ?_)
  refine r_istore5 dX11_copy_25 rfl ?_
  exact lp (min l.length (tbL T).length).succ _ _ 0 j (by omega) (by omega) (by omega) (fun _ _ => rfl) hct1 (by omega)
