/-! the law: the cases, tenth part: layer -/
set_option maxHeartbeats 4000000 in
set_option maxRecDepth 100000 in
theorem s_X11_layerB {g : zGT} {w : zW} {f : Nat → Nat → Int32} {j : Nat → Nat → Int64} {X : Nat} {T : zTb} {x y : Int32} {Q : Option Value → zW → Prop} {QX : String → zW → Prop} (G : zGok g) (hx : shX w X) (ht : tbAt w f X (X + 11) T) (hXNE : ¬ (0 ≤ x.toInt ∧ x.toInt < ((tbL T).length : Nat)) → ∀ f2_z, qX X f f2_z → ∀ n, zS w ≤ n → QX "java/util/NoSuchElementException" (zsS (zM w f2_z j) n)) (hXIA : (0 ≤ x.toInt ∧ x.toInt < ((tbL T).length : Nat)) → y.toInt < 0 → ∀ f2_z, qX X f f2_z → ∀ n, zS w ≤ n → QX "java/lang/IllegalArgumentException" (zsS (zM w f2_z j) n)) (hQ : (0 ≤ x.toInt ∧ x.toInt < ((tbL T).length : Nat)) → 0 ≤ y.toInt → ∀ (r : Int32) f2_z, r.toInt = layI (tbL T) x.toInt y.toInt → qX X f f2_z → Q (some (.int r)) (zM w f2_z j)) : zC g 8 yX11_layer cX11_layer 4 (some .int) [.ref X, .int x, .int y] (zM w f j) (2, 12) Q QX := by
  refine zC_of G (by decide +kernel) (Nat.le_of_ble_eq_true rfl) ?_
  have ht0 := ht
  obtain ⟨nq, pp, g0, p0, hnq, hna0, hpp, hctb, hpast, hwf⟩ := ht0
  have hna1 := hna0
  obtain ⟨hna, hcn, ⟨hz1, hz2, hz3⟩, hl1, hl2, hl3⟩ := hna0
  have hmo := hctb.2.2.1
  have hn6 : tbC T ≤ 6 := hwf.2.1
  have hg4 : tbG T ≤ 4 := hwf.2.2.1
  have hwm := hwf.2.2.2.2.2.2.2.1
  have hrt := wfT_rch hwf
  have hfl : (f (X + 11 + 7) 2).toInt = (T.2.2.1.2.length : Nat) := by rw [hmo.1]; have := hmo.2.1; exact zi_n (by omega)
  have hcells : (f nq 1).toInt = (tbC T : Nat) := by rw [hcn.2.1]; exact zi_n (n := tbC T) (by omega)
  have hgs : (f nq 2).toInt = (tbG T : Nat) := by rw [hcn.2.2.1]; exact zi_n (n := tbG T) (by omega)
  refine r_aloadR0 dX11_layer_0 ?_
  refine r_iload1 dX11_layer_1 ?_
  refine q_callV1 zm_RX11_159 dX11_layer_2 (shX_k hx) (by decide) rfl (Nat.le_of_ble_eq_true rfl) (Nat.le_of_ble_eq_true rfl) (Nat.le_of_ble_eq_true rfl) (Nat.le_of_ble_eq_true rfl) (Nat.le_of_ble_eq_true rfl) (s_X11_layWith G hx ht (fun hc9 g9 hq9 n hn => x_out (hXNE hc9 g9 hq9 n hn) (Nat.le_of_ble_eq_true rfl) (Nat.le_of_ble_eq_true rfl)) (fun hok f1_z ho1 hla => ?_))
  have hq1 : qX X f f1_z := qX_S (frS_R ho1 (by omega))
  have hcell := rch_cell hrt
  have hxk : x.toInt = (x.toInt.toNat : Nat) := by omega
  obtain ⟨C, p, k1_z, k2_z, k3_z, k4_z, q, D, k5_z, k6_z⟩ := col_ne hrt (c := x.toInt.toNat) (by omega)
  rw [← hxk] at k1_z k2_z k3_z k5_z
  refine r_astore3 dX11_layer_5 rfl ?_
  refine r_iload2 dX11_layer_6 ?_
  refine t_ifge (t := 20) dX11_layer_7 (by decide) (fun h7 => ?_) (fun h7 => ?_)
  · refine r_iload2 dX11_layer_20 ?_
    refine r_aloadR3 dX11_layer_21 ?_
    refine r_iload1 dX11_layer_22 ?_
    refine q_callV1 zm_RX11_163 dX11_layer_23 (shLay_k (shX_ly hx)) (by decide) rfl (Nat.le_of_ble_eq_true rfl) (Nat.le_of_ble_eq_true rfl) (Nat.le_of_ble_eq_true rfl) (Nat.le_of_ble_eq_true rfl) (Nat.le_of_ble_eq_true rfl) (s_X2_heightOf (w := zM w f1_z j) G (shX_ly hx) hla (fun r23 e23_z => ?_))
    have hz6 := zcol_le (L := tbL T) (c := x.toInt) (by rw [hcell.1]; exact hn6)
    have h23v : r23.toInt = ((zcol (tbL T) x.toInt).length : Nat) := by rw [e23_z, zht (by rw [hcell.1]; exact hn6)]; exact zi_n (by omega)
    refine t_icge (t := 43) dX11_layer_26 (by decide) (fun h26 => ?_) (fun h26 => ?_)
    · refine n_iconst dX11_layer_43 (by decide) (fun r43 e43 => ?_)
      refine r_iret dX11_layer_44 rfl (Nat.le_of_ble_eq_true rfl) (Nat.le_of_ble_eq_true rfl) ?_
      first
        | (refine hQ hok (by omega) _ f1_z ?_ hq1; unfold layI; rw [hu, e37]; exact zi_n (by omega))
        | (refine hQ hok (by omega) _ f1_z ?_ hq1; unfold layI; rw [List.getElem?_eq_none (by omega)]; show _ = (-1 : Int); omega)
    · obtain ⟨u, hu⟩ : ∃ u, (zcol (tbL T) x.toInt)[y.toInt.toNat]? = some u := ⟨_, List.getElem?_eq_getElem (by omega)⟩
      have hu2 : ((tbL T).flatten ++ [])[zst (tbL T) x.toInt + y.toInt.toNat]? = some u := by rw [List.append_nil, zcol_get (by omega)]; exact hu
      have hu6 := rch_bd hrt u (zcol_mem (List.mem_of_getElem? hu))
      refine r_aloadR3 dX11_layer_29 ?_
      refine r_aloadR3 dX11_layer_30 ?_
      refine r_iload1 dX11_layer_31 ?_
      refine q_callV1 zm_RX11_152 dX11_layer_32 (shLay_k (shX_ly hx)) (by decide) rfl (Nat.le_of_ble_eq_true rfl) (Nat.le_of_ble_eq_true rfl) (Nat.le_of_ble_eq_true rfl) (Nat.le_of_ble_eq_true rfl) (Nat.le_of_ble_eq_true rfl) (s_X2_startOf (w := zM w f1_z j) G (shX_ly hx) hla (fun r32 e32 => ?_))
      have hzb := zcol_bnd (L := tbL T) (c := x.toInt)
      rw [hcell.1] at hzb
      have h32v : r32.toInt = (zst (tbL T) x.toInt : Nat) := by rw [e32]; exact zi_n (by omega)
      refine r_iload2 dX11_layer_35 ?_
      refine n_iadd dX11_layer_36 (by omega) (fun r36 e36 => ?_)
      refine q_callV1 zm_RX11_168 dX11_layer_37 (shLay_k (shX_ly hx)) (by decide) rfl (Nat.le_of_ble_eq_true rfl) (Nat.le_of_ble_eq_true rfl) (Nat.le_of_ble_eq_true rfl) (Nat.le_of_ble_eq_true rfl) (Nat.le_of_ble_eq_true rfl) (s_X2_cellAt (w := zM w f1_z j) (i := zst (tbL T) x.toInt + y.toInt.toNat) (p := u) G (shX_ly hx) hla hu2 (zi_of (by omega) (by omega)) (fun r37 e37 => ?_))
      refine r_goto (t := 44) dX11_layer_40 (by decide) ?_
      refine r_iret dX11_layer_44 rfl (Nat.le_of_ble_eq_true rfl) (Nat.le_of_ble_eq_true rfl) ?_
      first
        | (refine hQ hok (by omega) _ f1_z ?_ hq1; unfold layI; rw [hu, e37]; exact zi_n (by omega))
        | (refine hQ hok (by omega) _ f1_z ?_ hq1; unfold layI; rw [List.getElem?_eq_none (by omega)]; show _ = (-1 : Int); omega)
  · refine r_throw zth_IA (List.mem_of_getElem? (i := 5) rfl) dX11_layer_10 dX11_layer_13 dX11_layer_14 dX11_layer_16 dX11_layer_19 (Nat.le_of_ble_eq_true rfl) (Nat.le_of_ble_eq_true rfl) (Nat.le_of_ble_eq_true rfl) (Nat.le_of_ble_eq_true rfl) ?_
    exact hXIA hok (by omega) f1_z hq1
set_option maxHeartbeats 4000000 in
set_option maxRecDepth 100000 in
theorem lc_5 {g : zGT} {Rm : Room} {QQ : List Frame → Array Value → State → State → Prop} {hh : List (Nat × Nat × Nat × Nat)} {nm : String} {w : zW} {f : Nat → Nat → Int32} {j : Nat → Nat → Int64} {s X L i N : Nat} {xs : Nat → Int32} {T : zTb} {ty : Nat → zTy} {im : Nat → Option zTb} {p : Nat} {B : Nat → Nat} {th pl : Int} {iv : Int32} {u5 u6 u7 : Option Value} {b : Nat × Nat} (G : zGok g) (hfr : 2048 ≤ Rm.frames) (hlo : 84000 ≤ Rm.locals) (hb1 : b.1 + 951 ≤ Rm.cells) (hb2 : b.2 + 1006 ≤ Rm.slots) (hT_z : ∀ U, g.2.2.2 U → va_T .int s L (fun k => .int (xs k)) (zA g.2.2.1) U U.heap) (hi_z : iv.toInt = (i : Nat)) (hiL : i + 6 ≤ L) (hL : L ≤ 3072) (h_z : lwI w f j X T ty im p B th pl N) (hN_z : N < 1900000000)  (kk : ∀ (u5 u6 u7 : Option Value) w2 f2_z j2 b2, b2.1 ≤ b.1 + 951 → b2.2 ≤ b.2 + 1006 → lwI w2 f2_z j2 X T ty im p B th pl (N + 1) → zR (zVg g Rm QQ hh nm 8 (some .boolean)) cL_law RL 2729 [some (.ref s), some (.ref X), some (.ref (X + 239)), some (.ref (X + 260)), some (.int iv), u5, u6, u7] [] (zM w2 f2_z j2) b2) : zR (zVg g Rm QQ hh nm 8 (some .boolean)) cL_law RL 526 [some (.ref s), some (.ref X), some (.ref (X + 239)), some (.ref (X + 260)), some (.int iv), u5, u6, u7] [] (zM w f j) b := by
  have hx := h_z.1.1
  have hX := shX_k hx
  have hO := h_z.1.2.2.2.1
  have hs := h_z.1.2.2.2.2.1
  have ht := h_z.1.2.2.2.2.2.1
  have hw := tb_wf ht
  have hS2 := h_z.1.2.1
  have hz := h_z.1.2.2.1
  refine r_aloadR1 dL_law_526 ?_
  refine r_aloadR0 dL_law_527 ?_
  refine r_iload4 dL_law_528 ?_
  refine n_iconst dL_law_530 (by decide) (fun r530 e530 => ?_)
  refine n_iadd dL_law_531 (by omega) (fun r531 e531 => ?_)
  refine k_iald (k := i + 1) (v := .int (xs (i + 1))) hT_z (by omega) (by omega) (by omega) rfl dL_law_532 ?_
  refine r_aloadR0 dL_law_533 ?_
  refine r_iload4 dL_law_534 ?_
  refine n_iconst dL_law_536 (by decide) (fun r536 e536 => ?_)
  refine n_iadd dL_law_537 (by omega) (fun r537 e537 => ?_)
  refine k_iald (k := i + 2) (v := .int (xs (i + 2))) hT_z (by omega) (by omega) (by omega) rfl dL_law_538 ?_
  refine r_aloadR3 dL_law_539 ?_
  refine q_callW (As := [.ref X, .int (xs (i + 1)), .int (xs (i + 2)), .ref (X + 260)]) (rest := []) zw_layer dL_law_540 rfl rfl (by decide) (by first | exact Nat.le_of_ble_eq_true rfl | omega | (dsimp only; omega)) (by first | exact Nat.le_of_ble_eq_true rfl | omega | (dsimp only; omega)) (by first | exact Nat.le_of_ble_eq_true rfl | omega | (dsimp only; omega)) (by first | exact Nat.le_of_ble_eq_true rfl | omega | (dsimp only; omega)) (w_layer G hX (s_X11_layerB G hx ht  (fun hc0 f1_z hq n hn => Or.inl ⟨rfl, fun k1_z ek => ?_⟩) (fun hc0 hc1 f1_z hq n hn => Or.inr (⟨rfl, fun k1_z ek => ?_⟩)) (fun hc0 hc1 rc f1_z ec hq => ⟨rc, w, f1_z, j, rfl, rfl, hO.1, hO.2, fun k1_z y1 ek ey => ?_⟩)))
  · have hI1 := lwI_s (n := n) (lwI_cq h_z hq) hn
    rw [show zsS (zM w f1_z j) n = zM (zsS w n) f1_z j from rfl]
    have hs := hI1.1.2.2.2.2.1
    have hO := hI1.1.2.2.2.1
    refine r_istore5 dL_law_543 rfl ?_
    refine r_aloadR2 dL_law_545 ?_
    refine r_aloadR0 dL_law_546 ?_
    refine r_iload4 dL_law_547 ?_
    refine n_iconst dL_law_549 (by decide) (fun r549 e549 => ?_)
    refine n_iadd dL_law_550 (by omega) (fun r550 e550 => ?_)
    refine k_iald (k := i + 1) (v := .int (xs (i + 1))) hT_z (by omega) (by omega) (by omega) rfl dL_law_551 ?_
    refine r_aloadR0 dL_law_552 ?_
    refine r_iload4 dL_law_553 ?_
    refine n_iconst dL_law_555 (by decide) (fun r555 e555 => ?_)
    refine n_iadd dL_law_556 (by omega) (fun r556 e556 => ?_)
    refine k_iald (k := i + 2) (v := .int (xs (i + 2))) hT_z (by omega) (by omega) (by omega) rfl dL_law_557 ?_
    refine q_callV2 zm_RL_167 dL_law_558 (shM_k hs) (by decide) rfl (by decide) (by first | exact Nat.le_of_ble_eq_true rfl | omega | (dsimp only; omega)) (by first | exact Nat.le_of_ble_eq_true rfl | omega | (dsimp only; omega)) (by first | exact Nat.le_of_ble_eq_true rfl | omega | (dsimp only; omega)) (by first | exact Nat.le_of_ble_eq_true rfl | omega | (dsimp only; omega)) (s_X12_layer G hs hI1.2.1 hw (fun hy0 r6 f2_z o6 t6 => ?_) (fun hy0 hy1 r6 f2_z o6 t6 => ?_) (fun hy0 hy1 r6 f2_z e6_z o6 t6 => ?_))
    · have hI2 := lwI_mf hI1 (frM_su o6 (by decide) (by decide))
      refine r_istore6 dL_law_561 rfl ?_
      refine r_aloadR2 dL_law_563 ?_
      refine q_callV0 zm_RL_151 dL_law_564 (shM_k hs) (by decide) rfl (by first | exact Nat.le_of_ble_eq_true rfl | omega | (dsimp only; omega)) (by first | exact Nat.le_of_ble_eq_true rfl | omega | (dsimp only; omega)) (by first | exact Nat.le_of_ble_eq_true rfl | omega | (dsimp only; omega)) (by first | exact Nat.le_of_ble_eq_true rfl | omega | (dsimp only; omega)) (by first | exact Nat.le_of_ble_eq_true rfl | omega | (dsimp only; omega)) (s_X12_thrown G hs (fun r7 e7_z => ?_))
      have e7i : r7.toInt = (f2_z (X + 239) 4).toInt := by rw [e7_z]
      refine r_iload5 dL_law_567 ?_
      refine t_iceq (t := 574) dL_law_569 (by decide) (fun h569 => ?_) (fun h569 => False.elim (by omega))
      refine r_iload5 dL_law_574 ?_
      refine t_ifne (t := 591) dL_law_576 (by decide) (fun h576 => ?_) (fun h576 => False.elim (by omega))
      refine r_goto (t := 2729) dL_law_591 (by decide) ?_
      refine kk _ _ _ _ _ _ _ ?_ ?_ (lwI_m hI2 (by omega))
      · first | omega | (dsimp only; omega)
      · first | omega | (dsimp only; omega)
    · exact False.elim (by omega)
    · exact False.elim (by omega)
  · have hI1 := lwI_s (n := n) (lwI_cq h_z hq) hn
    rw [show zsS (zM w f1_z j) n = zM (zsS w n) f1_z j from rfl]
    have hs := hI1.1.2.2.2.2.1
    have hO := hI1.1.2.2.2.1
    refine r_istore5 dL_law_543 rfl ?_
    refine r_aloadR2 dL_law_545 ?_
    refine r_aloadR0 dL_law_546 ?_
    refine r_iload4 dL_law_547 ?_
    refine n_iconst dL_law_549 (by decide) (fun r549 e549 => ?_)
    refine n_iadd dL_law_550 (by omega) (fun r550 e550 => ?_)
    refine k_iald (k := i + 1) (v := .int (xs (i + 1))) hT_z (by omega) (by omega) (by omega) rfl dL_law_551 ?_
    refine r_aloadR0 dL_law_552 ?_
    refine r_iload4 dL_law_553 ?_
    refine n_iconst dL_law_555 (by decide) (fun r555 e555 => ?_)
    refine n_iadd dL_law_556 (by omega) (fun r556 e556 => ?_)
    refine k_iald (k := i + 2) (v := .int (xs (i + 2))) hT_z (by omega) (by omega) (by omega) rfl dL_law_557 ?_
    refine q_callV2 zm_RL_167 dL_law_558 (shM_k hs) (by decide) rfl (by decide) (by first | exact Nat.le_of_ble_eq_true rfl | omega | (dsimp only; omega)) (by first | exact Nat.le_of_ble_eq_true rfl | omega | (dsimp only; omega)) (by first | exact Nat.le_of_ble_eq_true rfl | omega | (dsimp only; omega)) (by first | exact Nat.le_of_ble_eq_true rfl | omega | (dsimp only; omega)) (s_X12_layer G hs hI1.2.1 hw (fun hy0 r6 f2_z o6 t6 => ?_) (fun hy0 hy1 r6 f2_z o6 t6 => ?_) (fun hy0 hy1 r6 f2_z e6_z o6 t6 => ?_))
    · exact False.elim (by omega)
    · have hI2 := lwI_mf hI1 (frM_su o6 (by decide) (by decide))
      refine r_istore6 dL_law_561 rfl ?_
      refine r_aloadR2 dL_law_563 ?_
      refine q_callV0 zm_RL_151 dL_law_564 (shM_k hs) (by decide) rfl (by first | exact Nat.le_of_ble_eq_true rfl | omega | (dsimp only; omega)) (by first | exact Nat.le_of_ble_eq_true rfl | omega | (dsimp only; omega)) (by first | exact Nat.le_of_ble_eq_true rfl | omega | (dsimp only; omega)) (by first | exact Nat.le_of_ble_eq_true rfl | omega | (dsimp only; omega)) (by first | exact Nat.le_of_ble_eq_true rfl | omega | (dsimp only; omega)) (s_X12_thrown G hs (fun r7 e7_z => ?_))
      have e7i : r7.toInt = (f2_z (X + 239) 4).toInt := by rw [e7_z]
      refine r_iload5 dL_law_567 ?_
      refine t_iceq (t := 574) dL_law_569 (by decide) (fun h569 => ?_) (fun h569 => False.elim (by omega))
      refine r_iload5 dL_law_574 ?_
      refine t_ifne (t := 591) dL_law_576 (by decide) (fun h576 => ?_) (fun h576 => False.elim (by omega))
      refine r_goto (t := 2729) dL_law_591 (by decide) ?_
      refine kk _ _ _ _ _ _ _ ?_ ?_ (lwI_m hI2 (by omega))
      · first | omega | (dsimp only; omega)
      · first | omega | (dsimp only; omega)
    · exact False.elim (by omega)
  · have hI1 := lwI_o (y := y1) (lwI_cq h_z hq)
    have hs := hI1.1.2.2.2.2.1
    have hj1 : zu j (X + 260) 0 y1 (X + 260) 0 = y1 := zu_at
    obtain ⟨j1, hj⟩ : ∃ j9, j9 = zu j (X + 260) 0 y1 := ⟨_, rfl⟩
    rw [← hj] at hI1 hj1 ⊢
    refine r_istore5 dL_law_543 rfl ?_
    refine r_aloadR2 dL_law_545 ?_
    refine r_aloadR0 dL_law_546 ?_
    refine r_iload4 dL_law_547 ?_
    refine n_iconst dL_law_549 (by decide) (fun r549 e549 => ?_)
    refine n_iadd dL_law_550 (by omega) (fun r550 e550 => ?_)
    refine k_iald (k := i + 1) (v := .int (xs (i + 1))) hT_z (by omega) (by omega) (by omega) rfl dL_law_551 ?_
    refine r_aloadR0 dL_law_552 ?_
    refine r_iload4 dL_law_553 ?_
    refine n_iconst dL_law_555 (by decide) (fun r555 e555 => ?_)
    refine n_iadd dL_law_556 (by omega) (fun r556 e556 => ?_)
    refine k_iald (k := i + 2) (v := .int (xs (i + 2))) hT_z (by omega) (by omega) (by omega) rfl dL_law_557 ?_
    refine q_callV2 zm_RL_167 dL_law_558 (shM_k hs) (by decide) rfl (by decide) (by first | exact Nat.le_of_ble_eq_true rfl | omega | (dsimp only; omega)) (by first | exact Nat.le_of_ble_eq_true rfl | omega | (dsimp only; omega)) (by first | exact Nat.le_of_ble_eq_true rfl | omega | (dsimp only; omega)) (by first | exact Nat.le_of_ble_eq_true rfl | omega | (dsimp only; omega)) (s_X12_layer G hs hI1.2.1 hw (fun hy0 r6 f2_z o6 t6 => ?_) (fun hy0 hy1 r6 f2_z o6 t6 => ?_) (fun hy0 hy1 r6 f2_z e6_z o6 t6 => ?_))
    · exact False.elim (by omega)
    · exact False.elim (by omega)
    · have hI2 := lwI_mf hI1 (frM_su o6 (by decide) (by decide))
      have hl2 : (j1 (X + 260) 0).toInt = y1.toInt := by rw [hj1]
      have he9 : rc.toInt = r6.toInt := by first | (rw [ec, e6_z]; done) | omega
      refine r_istore6 dL_law_561 rfl ?_
      refine r_aloadR2 dL_law_563 ?_
      refine q_callV0 zm_RL_151 dL_law_564 (shM_k hs) (by decide) rfl (by first | exact Nat.le_of_ble_eq_true rfl | omega | (dsimp only; omega)) (by first | exact Nat.le_of_ble_eq_true rfl | omega | (dsimp only; omega)) (by first | exact Nat.le_of_ble_eq_true rfl | omega | (dsimp only; omega)) (by first | exact Nat.le_of_ble_eq_true rfl | omega | (dsimp only; omega)) (by first | exact Nat.le_of_ble_eq_true rfl | omega | (dsimp only; omega)) (s_X12_thrown G hs (fun r7 e7_z => ?_))
      have e7i : r7.toInt = (f2_z (X + 239) 4).toInt := by rw [e7_z]
      refine r_iload5 dL_law_567 ?_
      refine t_iceq (t := 574) dL_law_569 (by decide) (fun h569 => ?_) (fun h569 => False.elim (by omega))
      refine r_iload5 dL_law_574 ?_
      refine t_ifne (t := 591) dL_law_576 (by decide) (fun h576 => False.elim (by omega)) (fun h576 => ?_)
      refine r_aloadR3 dL_law_579 ?_
      refine n_iconst dL_law_580 (by decide) (fun r580 e580 => ?_)
      refine m_lald (k := 0) (x := (j1 (X + 260) 0)) dL_law_581 hO.1 hO.2 (by omega) (by omega) (rfl) ?_
      refine r_iload6 dL_law_582 ?_
      refine n_i2l dL_law_584 (fun r584 e584 => ?_)
      refine n_lcmp dL_law_585 (fun r585 e585 => ?_)
      unfold zcmp at e585
      refine t_ifeq (t := 591) dL_law_586 (by decide) (fun h586 => ?_) (fun h586 => False.elim (by omega))
      refine r_goto (t := 2729) dL_law_591 (by decide) ?_
      refine kk _ _ _ _ _ _ _ ?_ ?_ (lwI_m hI2 (by omega))
      · first | omega | (dsimp only; omega)
      · first | omega | (dsimp only; omega)
