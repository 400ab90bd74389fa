/-! the law: the cases, second part -/
set_option maxHeartbeats 4000000 in
set_option maxRecDepth 100000 in
theorem lc_21 {g : zGT} {Rm : Room} {QQ : List Frame → Array Value → State → State → Prop} {hh : List (Nat × Nat × Nat × Nat)} {nm : String} {w : zW} {f : Nat → Nat → Int32} {j : Nat → Nat → Int64} {s X L i N : Nat} {xs : Nat → Int32} {T : zTb} {ty : Nat → zTy} {im : Nat → Option zTb} {p : Nat} {B : Nat → Nat} {th pl : Int} {iv : Int32} {u5 u6 u7 : Option Value} {b : Nat × Nat} (G : zGok g) (hfr : 2048 ≤ Rm.frames) (hlo : 84000 ≤ Rm.locals) (hb1 : b.1 + 951 ≤ Rm.cells) (hb2 : b.2 + 1006 ≤ Rm.slots) (hT_z : ∀ U, g.2.2.2 U → va_T .int s L (fun k => .int (xs k)) (zA g.2.2.1) U U.heap) (hi_z : iv.toInt = (i : Nat)) (hiL : i + 6 ≤ L) (hL : L ≤ 3072) (h_z : lwI w f j X T ty im p B th pl N) (hN_z : N < 1900000000)  (kk : ∀ (u5 u6 u7 : Option Value) w2 f2_z j2 b2, b2.1 ≤ b.1 + 951 → b2.2 ≤ b.2 + 1006 → lwI w2 f2_z j2 X T ty im p B th pl (N + 4) → zR (zVg g Rm QQ hh nm 8 (some .boolean)) cL_law RL 2729 [some (.ref s), some (.ref X), some (.ref (X + 239)), some (.ref (X + 260)), some (.int iv), u5, u6, u7] [] (zM w2 f2_z j2) b2) : zR (zVg g Rm QQ hh nm 8 (some .boolean)) cL_law RL 1353 [some (.ref s), some (.ref X), some (.ref (X + 239)), some (.ref (X + 260)), some (.int iv), u5, u6, u7] [] (zM w f j) b := by
  have hx := h_z.1.1
  have hX := shX_k hx
  have hO := h_z.1.2.2.2.1
  have hs := h_z.1.2.2.2.2.1
  have ht := h_z.1.2.2.2.2.2.1
  have hw := tb_wf ht
  have hS2 := h_z.1.2.1
  have hz := h_z.1.2.2.1
  refine r_aloadR1 dL_law_1353 ?_
  refine r_aloadR0 dL_law_1354 ?_
  refine r_iload4 dL_law_1355 ?_
  refine n_iconst dL_law_1357 (by decide) (fun r1357 e1357 => ?_)
  refine n_iadd dL_law_1358 (by omega) (fun r1358 e1358 => ?_)
  refine k_iald (k := i + 1) (v := .int (xs (i + 1))) hT_z (by omega) (by omega) (by omega) rfl dL_law_1359 ?_
  refine r_aloadR3 dL_law_1360 ?_
  refine q_callW (As := [.ref X, .int (xs (i + 1)), .ref (X + 260)]) (rest := []) zw_rows dL_law_1361 rfl rfl (by decide) (by first | exact Nat.le_of_ble_eq_true rfl | omega | (dsimp only; omega)) (by first | exact Nat.le_of_ble_eq_true rfl | omega | (dsimp only; omega)) (by first | exact Nat.le_of_ble_eq_true rfl | omega | (dsimp only; omega)) (by first | exact Nat.le_of_ble_eq_true rfl | omega | (dsimp only; omega)) (w_rows G hX (s_X11_rows G hx ht h_z.1.2.2.2.2.2.2.1  (fun hc0 n hn => ⟨rfl, fun k1_z ek => ?_⟩) (fun hc0 rc f1_z ec hq => ⟨rc, w, f1_z, j, rfl, rfl, hO.1, hO.2, fun k1_z y1 ek ey => ?_⟩)))
  · have hI1 := lwI_s (n := n) h_z hn
    rw [show zsS (zM w f j) n = zM (zsS w n) f j from rfl]
    have hs := hI1.1.2.2.2.2.1
    have hO := hI1.1.2.2.2.1
    refine r_istore5 dL_law_1364 rfl ?_
    refine r_aloadR2 dL_law_1366 ?_
    refine r_aloadR0 dL_law_1367 ?_
    refine r_iload4 dL_law_1368 ?_
    refine n_iconst dL_law_1370 (by decide) (fun r1370 e1370 => ?_)
    refine n_iadd dL_law_1371 (by omega) (fun r1371 e1371 => ?_)
    refine k_iald (k := i + 1) (v := .int (xs (i + 1))) hT_z (by omega) (by omega) (by omega) rfl dL_law_1372 ?_
    refine q_callV1 zm_RL_221 dL_law_1373 (shM_k hs) (by decide) rfl (by decide) (by first | exact Nat.le_of_ble_eq_true rfl | omega | (dsimp only; omega)) (by first | exact Nat.le_of_ble_eq_true rfl | omega | (dsimp only; omega)) (by first | exact Nat.le_of_ble_eq_true rfl | omega | (dsimp only; omega)) (by first | exact Nat.le_of_ble_eq_true rfl | omega | (dsimp only; omega)) (s_X12_rows G hs hI1.2.1 hw hI1.2.2.2.2.1 (by have h9 := hI1.2.2.2.2.2.1; omega) (fun hy0 r6 f2_z j2 o6 t6 => ?_) (fun hy0 r6 f2_z j2 e6_z o6 t6 => ?_))
    · have hI2 := lwI_mq hI1 o6
      refine r_istore6 dL_law_1376 rfl ?_
      refine r_aloadR2 dL_law_1378 ?_
      refine q_callV0 zm_RL_151 dL_law_1379 (shM_k hs) (by decide) rfl (by first | exact Nat.le_of_ble_eq_true rfl | omega | (dsimp only; omega)) (by first | exact Nat.le_of_ble_eq_true rfl | omega | (dsimp only; omega)) (by first | exact Nat.le_of_ble_eq_true rfl | omega | (dsimp only; omega)) (by first | exact Nat.le_of_ble_eq_true rfl | omega | (dsimp only; omega)) (by first | exact Nat.le_of_ble_eq_true rfl | omega | (dsimp only; omega)) (s_X12_thrown G hs (fun r7 e7_z => ?_))
      have e7i : r7.toInt = (f2_z (X + 239) 4).toInt := by rw [e7_z]
      refine r_iload5 dL_law_1382 ?_
      refine t_iceq (t := 1389) dL_law_1384 (by decide) (fun h1384 => ?_) (fun h1384 => False.elim (by omega))
      refine r_iload5 dL_law_1389 ?_
      refine t_ifne (t := 1406) dL_law_1391 (by decide) (fun h1391 => ?_) (fun h1391 => False.elim (by omega))
      refine r_goto (t := 2729) dL_law_1406 (by decide) ?_
      refine kk _ _ _ _ _ _ _ ?_ ?_ (lwI_m hI2 (by omega))
      · first | omega | (dsimp only; omega)
      · first | omega | (dsimp only; omega)
    · exact False.elim (by omega)
  · have hI1 := lwI_o (y := y1) (lwI_cq h_z hq)
    have hs := hI1.1.2.2.2.2.1
    have hj1 : zu j (X + 260) 0 y1 (X + 260) 0 = y1 := zu_at
    obtain ⟨j1, hj⟩ : ∃ j9, j9 = zu j (X + 260) 0 y1 := ⟨_, rfl⟩
    rw [← hj] at hI1 hj1 ⊢
    refine r_istore5 dL_law_1364 rfl ?_
    refine r_aloadR2 dL_law_1366 ?_
    refine r_aloadR0 dL_law_1367 ?_
    refine r_iload4 dL_law_1368 ?_
    refine n_iconst dL_law_1370 (by decide) (fun r1370 e1370 => ?_)
    refine n_iadd dL_law_1371 (by omega) (fun r1371 e1371 => ?_)
    refine k_iald (k := i + 1) (v := .int (xs (i + 1))) hT_z (by omega) (by omega) (by omega) rfl dL_law_1372 ?_
    refine q_callV1 zm_RL_221 dL_law_1373 (shM_k hs) (by decide) rfl (by decide) (by first | exact Nat.le_of_ble_eq_true rfl | omega | (dsimp only; omega)) (by first | exact Nat.le_of_ble_eq_true rfl | omega | (dsimp only; omega)) (by first | exact Nat.le_of_ble_eq_true rfl | omega | (dsimp only; omega)) (by first | exact Nat.le_of_ble_eq_true rfl | omega | (dsimp only; omega)) (s_X12_rows G hs hI1.2.1 hw hI1.2.2.2.2.1 (by have h9 := hI1.2.2.2.2.2.1; omega) (fun hy0 r6 f2_z j2 o6 t6 => ?_) (fun hy0 r6 f2_z j2 e6_z o6 t6 => ?_))
    · exact False.elim (by omega)
    · have hI2 := lwI_mq hI1 o6
      have hl2 : (j2 (X + 260) 0).toInt = y1.toInt := by rw [o6.2.1 (X + 260) (by omega), hj1]
      have he9 : rc.toInt = r6.toInt := by rw [ec, e6_z, eq_rows]
      refine r_istore6 dL_law_1376 rfl ?_
      refine r_aloadR2 dL_law_1378 ?_
      refine q_callV0 zm_RL_151 dL_law_1379 (shM_k hs) (by decide) rfl (by first | exact Nat.le_of_ble_eq_true rfl | omega | (dsimp only; omega)) (by first | exact Nat.le_of_ble_eq_true rfl | omega | (dsimp only; omega)) (by first | exact Nat.le_of_ble_eq_true rfl | omega | (dsimp only; omega)) (by first | exact Nat.le_of_ble_eq_true rfl | omega | (dsimp only; omega)) (by first | exact Nat.le_of_ble_eq_true rfl | omega | (dsimp only; omega)) (s_X12_thrown G hs (fun r7 e7_z => ?_))
      have e7i : r7.toInt = (f2_z (X + 239) 4).toInt := by rw [e7_z]
      refine r_iload5 dL_law_1382 ?_
      refine t_iceq (t := 1389) dL_law_1384 (by decide) (fun h1384 => ?_) (fun h1384 => False.elim (by omega))
      refine r_iload5 dL_law_1389 ?_
      refine t_ifne (t := 1406) dL_law_1391 (by decide) (fun h1391 => False.elim (by omega)) (fun h1391 => ?_)
      refine r_aloadR3 dL_law_1394 ?_
      refine n_iconst dL_law_1395 (by decide) (fun r1395 e1395 => ?_)
      refine m_lald (k := 0) (x := (j2 (X + 260) 0)) dL_law_1396 hO.1 hO.2 (by omega) (by omega) (rfl) ?_
      refine r_iload6 dL_law_1397 ?_
      refine n_i2l dL_law_1399 (fun r1399 e1399 => ?_)
      refine n_lcmp dL_law_1400 (fun r1400 e1400 => ?_)
      unfold zcmp at e1400
      refine t_ifeq (t := 1406) dL_law_1401 (by decide) (fun h1401 => ?_) (fun h1401 => False.elim (by omega))
      refine r_goto (t := 2729) dL_law_1406 (by decide) ?_
      refine kk _ _ _ _ _ _ _ ?_ ?_ (lwI_m hI2 (by omega))
      · first | omega | (dsimp only; omega)
      · first | omega | (dsimp only; omega)
set_option maxHeartbeats 4000000 in
set_option maxRecDepth 100000 in
theorem lc_25 {g : zGT} {Rm : Room} {QQ : List Frame → Array Value → State → State → Prop} {hh : List (Nat × Nat × Nat × Nat)} {nm : String} {w : zW} {f : Nat → Nat → Int32} {j : Nat → Nat → Int64} {s X L i N : Nat} {xs : Nat → Int32} {T : zTb} {ty : Nat → zTy} {im : Nat → Option zTb} {p : Nat} {B : Nat → Nat} {th pl : Int} {iv : Int32} {u5 u6 u7 : Option Value} {b : Nat × Nat} (G : zGok g) (hfr : 2048 ≤ Rm.frames) (hlo : 84000 ≤ Rm.locals) (hb1 : b.1 + 951 ≤ Rm.cells) (hb2 : b.2 + 1006 ≤ Rm.slots) (hT_z : ∀ U, g.2.2.2 U → va_T .int s L (fun k => .int (xs k)) (zA g.2.2.1) U U.heap) (hi_z : iv.toInt = (i : Nat)) (hiL : i + 6 ≤ L) (hL : L ≤ 3072) (h_z : lwI w f j X T ty im p B th pl N) (hN_z : N < 1900000000)  (kk : ∀ (u5 u6 u7 : Option Value) w2 f2_z j2 b2, b2.1 ≤ b.1 + 951 → b2.2 ≤ b.2 + 1006 → lwI w2 f2_z j2 X T ty im p B th pl (N + 4) → zR (zVg g Rm QQ hh nm 8 (some .boolean)) cL_law RL 2729 [some (.ref s), some (.ref X), some (.ref (X + 239)), some (.ref (X + 260)), some (.int iv), u5, u6, u7] [] (zM w2 f2_z j2) b2) : zR (zVg g Rm QQ hh nm 8 (some .boolean)) cL_law RL 1577 [some (.ref s), some (.ref X), some (.ref (X + 239)), some (.ref (X + 260)), some (.int iv), u5, u6, u7] [] (zM w f j) b := by
  have hx := h_z.1.1
  have hX := shX_k hx
  have hO := h_z.1.2.2.2.1
  have hs := h_z.1.2.2.2.2.1
  have ht := h_z.1.2.2.2.2.2.1
  have hw := tb_wf ht
  have hS2 := h_z.1.2.1
  have hz := h_z.1.2.2.1
  refine r_aloadR1 dL_law_1577 ?_
  refine r_aloadR0 dL_law_1578 ?_
  refine r_iload4 dL_law_1579 ?_
  refine n_iconst dL_law_1581 (by decide) (fun r1581 e1581 => ?_)
  refine n_iadd dL_law_1582 (by omega) (fun r1582 e1582 => ?_)
  refine k_iald (k := i + 1) (v := .int (xs (i + 1))) hT_z (by omega) (by omega) (by omega) rfl dL_law_1583 ?_
  refine r_aloadR0 dL_law_1584 ?_
  refine r_iload4 dL_law_1585 ?_
  refine n_iconst dL_law_1587 (by decide) (fun r1587 e1587 => ?_)
  refine n_iadd dL_law_1588 (by omega) (fun r1588 e1588 => ?_)
  refine k_iald (k := i + 2) (v := .int (xs (i + 2))) hT_z (by omega) (by omega) (by omega) rfl dL_law_1589 ?_
  refine r_aloadR3 dL_law_1590 ?_
  refine q_callW (As := [.ref X, .int (xs (i + 1)), .int (xs (i + 2)), .ref (X + 260)]) (rest := []) zw_best dL_law_1591 rfl rfl (by decide) (by first | exact Nat.le_of_ble_eq_true rfl | omega | (dsimp only; omega)) (by first | exact Nat.le_of_ble_eq_true rfl | omega | (dsimp only; omega)) (by first | exact Nat.le_of_ble_eq_true rfl | omega | (dsimp only; omega)) (by first | exact Nat.le_of_ble_eq_true rfl | omega | (dsimp only; omega)) (w_best G hX (s_X11_best G hx ht h_z.1.2.2.2.2.2.2.1  (fun hc0 n hn => ⟨rfl, fun k1_z ek => ?_⟩) (fun hc0 rc f1_z ec hq => ⟨rc, w, f1_z, j, rfl, rfl, hO.1, hO.2, fun k1_z y1 ek ey => ?_⟩)))
  · have hI1 := lwI_s (n := n) h_z hn
    rw [show zsS (zM w f j) n = zM (zsS w n) f j from rfl]
    have hs := hI1.1.2.2.2.2.1
    have hO := hI1.1.2.2.2.1
    refine r_istore5 dL_law_1594 rfl ?_
    refine r_aloadR2 dL_law_1596 ?_
    refine r_aloadR0 dL_law_1597 ?_
    refine r_iload4 dL_law_1598 ?_
    refine n_iconst dL_law_1600 (by decide) (fun r1600 e1600 => ?_)
    refine n_iadd dL_law_1601 (by omega) (fun r1601 e1601 => ?_)
    refine k_iald (k := i + 1) (v := .int (xs (i + 1))) hT_z (by omega) (by omega) (by omega) rfl dL_law_1602 ?_
    refine r_aloadR0 dL_law_1603 ?_
    refine r_iload4 dL_law_1604 ?_
    refine n_iconst dL_law_1606 (by decide) (fun r1606 e1606 => ?_)
    refine n_iadd dL_law_1607 (by omega) (fun r1607 e1607 => ?_)
    refine k_iald (k := i + 2) (v := .int (xs (i + 2))) hT_z (by omega) (by omega) (by omega) rfl dL_law_1608 ?_
    refine q_callV2 zm_RL_233 dL_law_1609 (shM_k hs) (by decide) rfl (by decide) (by first | exact Nat.le_of_ble_eq_true rfl | omega | (dsimp only; omega)) (by first | exact Nat.le_of_ble_eq_true rfl | omega | (dsimp only; omega)) (by first | exact Nat.le_of_ble_eq_true rfl | omega | (dsimp only; omega)) (by first | exact Nat.le_of_ble_eq_true rfl | omega | (dsimp only; omega)) (s_X12_best G hs hI1.2.1 hw hI1.2.2.2.2.1 (by have h9 := hI1.2.2.2.2.2.1; omega) (fun hy0 r6 f2_z j2 o6 t6 => ?_) (fun hy0 r6 f2_z j2 e6_z o6 t6 => ?_))
    · have hI2 := lwI_mq hI1 o6
      refine r_istore6 dL_law_1612 rfl ?_
      refine r_aloadR2 dL_law_1614 ?_
      refine q_callV0 zm_RL_151 dL_law_1615 (shM_k hs) (by decide) rfl (by first | exact Nat.le_of_ble_eq_true rfl | omega | (dsimp only; omega)) (by first | exact Nat.le_of_ble_eq_true rfl | omega | (dsimp only; omega)) (by first | exact Nat.le_of_ble_eq_true rfl | omega | (dsimp only; omega)) (by first | exact Nat.le_of_ble_eq_true rfl | omega | (dsimp only; omega)) (by first | exact Nat.le_of_ble_eq_true rfl | omega | (dsimp only; omega)) (s_X12_thrown G hs (fun r7 e7_z => ?_))
      have e7i : r7.toInt = (f2_z (X + 239) 4).toInt := by rw [e7_z]
      refine r_iload5 dL_law_1618 ?_
      refine t_iceq (t := 1625) dL_law_1620 (by decide) (fun h1620 => ?_) (fun h1620 => False.elim (by omega))
      refine r_iload5 dL_law_1625 ?_
      refine t_ifne (t := 1642) dL_law_1627 (by decide) (fun h1627 => ?_) (fun h1627 => False.elim (by omega))
      refine r_goto (t := 2729) dL_law_1642 (by decide) ?_
      refine kk _ _ _ _ _ _ _ ?_ ?_ (lwI_m hI2 (by omega))
      · first | omega | (dsimp only; omega)
      · first | omega | (dsimp only; omega)
    · exact False.elim (by omega)
  · have hI1 := lwI_o (y := y1) (lwI_cq h_z hq)
    have hs := hI1.1.2.2.2.2.1
    have hj1 : zu j (X + 260) 0 y1 (X + 260) 0 = y1 := zu_at
    obtain ⟨j1, hj⟩ : ∃ j9, j9 = zu j (X + 260) 0 y1 := ⟨_, rfl⟩
    rw [← hj] at hI1 hj1 ⊢
    refine r_istore5 dL_law_1594 rfl ?_
    refine r_aloadR2 dL_law_1596 ?_
    refine r_aloadR0 dL_law_1597 ?_
    refine r_iload4 dL_law_1598 ?_
    refine n_iconst dL_law_1600 (by decide) (fun r1600 e1600 => ?_)
    refine n_iadd dL_law_1601 (by omega) (fun r1601 e1601 => ?_)
    refine k_iald (k := i + 1) (v := .int (xs (i + 1))) hT_z (by omega) (by omega) (by omega) rfl dL_law_1602 ?_
    refine r_aloadR0 dL_law_1603 ?_
    refine r_iload4 dL_law_1604 ?_
    refine n_iconst dL_law_1606 (by decide) (fun r1606 e1606 => ?_)
    refine n_iadd dL_law_1607 (by omega) (fun r1607 e1607 => ?_)
    refine k_iald (k := i + 2) (v := .int (xs (i + 2))) hT_z (by omega) (by omega) (by omega) rfl dL_law_1608 ?_
    refine q_callV2 zm_RL_233 dL_law_1609 (shM_k hs) (by decide) rfl (by decide) (by first | exact Nat.le_of_ble_eq_true rfl | omega | (dsimp only; omega)) (by first | exact Nat.le_of_ble_eq_true rfl | omega | (dsimp only; omega)) (by first | exact Nat.le_of_ble_eq_true rfl | omega | (dsimp only; omega)) (by first | exact Nat.le_of_ble_eq_true rfl | omega | (dsimp only; omega)) (s_X12_best G hs hI1.2.1 hw hI1.2.2.2.2.1 (by have h9 := hI1.2.2.2.2.2.1; omega) (fun hy0 r6 f2_z j2 o6 t6 => ?_) (fun hy0 r6 f2_z j2 e6_z o6 t6 => ?_))
    · exact False.elim (by omega)
    · have hI2 := lwI_mq hI1 o6
      have hl2 : (j2 (X + 260) 0).toInt = y1.toInt := by rw [o6.2.1 (X + 260) (by omega), hj1]
      have he9 : rc.toInt = r6.toInt := by rw [ec, e6_z, eq_best]
      refine r_istore6 dL_law_1612 rfl ?_
      refine r_aloadR2 dL_law_1614 ?_
      refine q_callV0 zm_RL_151 dL_law_1615 (shM_k hs) (by decide) rfl (by first | exact Nat.le_of_ble_eq_true rfl | omega | (dsimp only; omega)) (by first | exact Nat.le_of_ble_eq_true rfl | omega | (dsimp only; omega)) (by first | exact Nat.le_of_ble_eq_true rfl | omega | (dsimp only; omega)) (by first | exact Nat.le_of_ble_eq_true rfl | omega | (dsimp only; omega)) (by first | exact Nat.le_of_ble_eq_true rfl | omega | (dsimp only; omega)) (s_X12_thrown G hs (fun r7 e7_z => ?_))
      have e7i : r7.toInt = (f2_z (X + 239) 4).toInt := by rw [e7_z]
      refine r_iload5 dL_law_1618 ?_
      refine t_iceq (t := 1625) dL_law_1620 (by decide) (fun h1620 => ?_) (fun h1620 => False.elim (by omega))
      refine r_iload5 dL_law_1625 ?_
      refine t_ifne (t := 1642) dL_law_1627 (by decide) (fun h1627 => False.elim (by omega)) (fun h1627 => ?_)
      refine r_aloadR3 dL_law_1630 ?_
      refine n_iconst dL_law_1631 (by decide) (fun r1631 e1631 => ?_)
      refine m_lald (k := 0) (x := (j2 (X + 260) 0)) dL_law_1632 hO.1 hO.2 (by omega) (by omega) (rfl) ?_
      refine r_iload6 dL_law_1633 ?_
      refine n_i2l dL_law_1635 (fun r1635 e1635 => ?_)
      refine n_lcmp dL_law_1636 (fun r1636 e1636 => ?_)
      unfold zcmp at e1636
      refine t_ifeq (t := 1642) dL_law_1637 (by decide) (fun h1637 => ?_) (fun h1637 => False.elim (by omega))
      refine r_goto (t := 2729) dL_law_1642 (by decide) ?_
      refine kk _ _ _ _ _ _ _ ?_ ?_ (lwI_m hI2 (by omega))
      · first | omega | (dsimp only; omega)
      · first | omega | (dsimp only; omega)
set_option maxHeartbeats 4000000 in
set_option maxRecDepth 100000 in
theorem lc_36 {g : zGT} {Rm : Room} {QQ : List Frame → Array Value → State → State → Prop} {hh : List (Nat × Nat × Nat × Nat)} {nm : String} {w : zW} {f : Nat → Nat → Int32} {j : Nat → Nat → Int64} {s X L i N : Nat} {xs : Nat → Int32} {T : zTb} {ty : Nat → zTy} {im : Nat → Option zTb} {p : Nat} {B : Nat → Nat} {th pl : Int} {iv : Int32} {u5 u6 u7 : Option Value} {b : Nat × Nat} (G : zGok g) (hfr : 2048 ≤ Rm.frames) (hlo : 84000 ≤ Rm.locals) (hb1 : b.1 + 951 ≤ Rm.cells) (hb2 : b.2 + 1006 ≤ Rm.slots) (hT_z : ∀ U, g.2.2.2 U → va_T .int s L (fun k => .int (xs k)) (zA g.2.2.1) U U.heap) (hi_z : iv.toInt = (i : Nat)) (hiL : i + 6 ≤ L) (hL : L ≤ 3072) (h_z : lwI w f j X T ty im p B th pl N) (hN_z : N < 1900000000)  (kk : ∀ (u5 u6 u7 : Option Value) w2 f2_z j2 b2, b2.1 ≤ b.1 + 951 → b2.2 ≤ b.2 + 1006 → lwI w2 f2_z j2 X T ty im p B th pl (N + 4) → zR (zVg g Rm QQ hh nm 8 (some .boolean)) cL_law RL 2729 [some (.ref s), some (.ref X), some (.ref (X + 239)), some (.ref (X + 260)), some (.int iv), u5, u6, u7] [] (zM w2 f2_z j2) b2) : zR (zVg g Rm QQ hh nm 8 (some .boolean)) cL_law RL 2021 [some (.ref s), some (.ref X), some (.ref (X + 239)), some (.ref (X + 260)), some (.int iv), u5, u6, u7] [] (zM w f j) b := by
  have hx := h_z.1.1
  have hX := shX_k hx
  have hO := h_z.1.2.2.2.1
  have hs := h_z.1.2.2.2.2.1
  have ht := h_z.1.2.2.2.2.2.1
  have hw := tb_wf ht
  have hS2 := h_z.1.2.1
  have hz := h_z.1.2.2.1
  refine r_aloadR1 dL_law_2021 ?_
  refine r_aloadR0 dL_law_2022 ?_
  refine r_iload4 dL_law_2023 ?_
  refine n_iconst dL_law_2025 (by decide) (fun r2025 e2025 => ?_)
  refine n_iadd dL_law_2026 (by omega) (fun r2026 e2026 => ?_)
  refine k_iald (k := i + 1) (v := .int (xs (i + 1))) hT_z (by omega) (by omega) (by omega) rfl dL_law_2027 ?_
  refine r_aloadR0 dL_law_2028 ?_
  refine r_iload4 dL_law_2029 ?_
  refine n_iconst dL_law_2031 (by decide) (fun r2031 e2031 => ?_)
  refine n_iadd dL_law_2032 (by omega) (fun r2032 e2032 => ?_)
  refine k_iald (k := i + 2) (v := .int (xs (i + 2))) hT_z (by omega) (by omega) (by omega) rfl dL_law_2033 ?_
  refine r_aloadR3 dL_law_2034 ?_
  refine q_callW (As := [.ref X, .int (xs (i + 1)), .int (xs (i + 2)), .ref (X + 260)]) (rest := []) zw_fairest dL_law_2035 rfl rfl (by decide) (by first | exact Nat.le_of_ble_eq_true rfl | omega | (dsimp only; omega)) (by first | exact Nat.le_of_ble_eq_true rfl | omega | (dsimp only; omega)) (by first | exact Nat.le_of_ble_eq_true rfl | omega | (dsimp only; omega)) (by first | exact Nat.le_of_ble_eq_true rfl | omega | (dsimp only; omega)) (w_fairest G hX (s_X11_fairest G hx ht h_z.1.2.2.2.2.2.2.1  (fun hc0 n hn => ⟨rfl, fun k1_z ek => ?_⟩) (fun hc0 rc f1_z ec hq => ⟨rc, w, f1_z, j, rfl, rfl, hO.1, hO.2, fun k1_z y1 ek ey => ?_⟩)))
  · have hI1 := lwI_s (n := n) h_z hn
    rw [show zsS (zM w f j) n = zM (zsS w n) f j from rfl]
    have hs := hI1.1.2.2.2.2.1
    have hO := hI1.1.2.2.2.1
    refine r_istore5 dL_law_2038 rfl ?_
    refine r_aloadR2 dL_law_2040 ?_
    refine r_aloadR0 dL_law_2041 ?_
    refine r_iload4 dL_law_2042 ?_
    refine n_iconst dL_law_2044 (by decide) (fun r2044 e2044 => ?_)
    refine n_iadd dL_law_2045 (by omega) (fun r2045 e2045 => ?_)
    refine k_iald (k := i + 1) (v := .int (xs (i + 1))) hT_z (by omega) (by omega) (by omega) rfl dL_law_2046 ?_
    refine r_aloadR0 dL_law_2047 ?_
    refine r_iload4 dL_law_2048 ?_
    refine n_iconst dL_law_2050 (by decide) (fun r2050 e2050 => ?_)
    refine n_iadd dL_law_2051 (by omega) (fun r2051 e2051 => ?_)
    refine k_iald (k := i + 2) (v := .int (xs (i + 2))) hT_z (by omega) (by omega) (by omega) rfl dL_law_2052 ?_
    refine q_callV2 zm_RL_271 dL_law_2053 (shM_k hs) (by decide) rfl (by decide) (by first | exact Nat.le_of_ble_eq_true rfl | omega | (dsimp only; omega)) (by first | exact Nat.le_of_ble_eq_true rfl | omega | (dsimp only; omega)) (by first | exact Nat.le_of_ble_eq_true rfl | omega | (dsimp only; omega)) (by first | exact Nat.le_of_ble_eq_true rfl | omega | (dsimp only; omega)) (s_X12_fairest G hs hI1.2.1 hw hI1.2.2.2.2.1 (by have h9 := hI1.2.2.2.2.2.1; omega) (fun hy0 r6 f2_z j2 o6 t6 => ?_) (fun hy0 r6 f2_z j2 e6_z o6 t6 => ?_))
    · have hI2 := lwI_mq hI1 o6
      refine r_istore6 dL_law_2056 rfl ?_
      refine r_aloadR2 dL_law_2058 ?_
      refine q_callV0 zm_RL_151 dL_law_2059 (shM_k hs) (by decide) rfl (by first | exact Nat.le_of_ble_eq_true rfl | omega | (dsimp only; omega)) (by first | exact Nat.le_of_ble_eq_true rfl | omega | (dsimp only; omega)) (by first | exact Nat.le_of_ble_eq_true rfl | omega | (dsimp only; omega)) (by first | exact Nat.le_of_ble_eq_true rfl | omega | (dsimp only; omega)) (by first | exact Nat.le_of_ble_eq_true rfl | omega | (dsimp only; omega)) (s_X12_thrown G hs (fun r7 e7_z => ?_))
      have e7i : r7.toInt = (f2_z (X + 239) 4).toInt := by rw [e7_z]
      refine r_iload5 dL_law_2062 ?_
      refine t_iceq (t := 2069) dL_law_2064 (by decide) (fun h2064 => ?_) (fun h2064 => False.elim (by omega))
      refine r_iload5 dL_law_2069 ?_
      refine t_ifne (t := 2086) dL_law_2071 (by decide) (fun h2071 => ?_) (fun h2071 => False.elim (by omega))
      refine r_goto (t := 2729) dL_law_2086 (by decide) ?_
      refine kk _ _ _ _ _ _ _ ?_ ?_ (lwI_m hI2 (by omega))
      · first | omega | (dsimp only; omega)
      · first | omega | (dsimp only; omega)
    · exact False.elim (by omega)
  · have hI1 := lwI_o (y := y1) (lwI_cq h_z hq)
    have hs := hI1.1.2.2.2.2.1
    have hj1 : zu j (X + 260) 0 y1 (X + 260) 0 = y1 := zu_at
    obtain ⟨j1, hj⟩ : ∃ j9, j9 = zu j (X + 260) 0 y1 := ⟨_, rfl⟩
    rw [← hj] at hI1 hj1 ⊢
    refine r_istore5 dL_law_2038 rfl ?_
    refine r_aloadR2 dL_law_2040 ?_
    refine r_aloadR0 dL_law_2041 ?_
    refine r_iload4 dL_law_2042 ?_
    refine n_iconst dL_law_2044 (by decide) (fun r2044 e2044 => ?_)
    refine n_iadd dL_law_2045 (by omega) (fun r2045 e2045 => ?_)
    refine k_iald (k := i + 1) (v := .int (xs (i + 1))) hT_z (by omega) (by omega) (by omega) rfl dL_law_2046 ?_
    refine r_aloadR0 dL_law_2047 ?_
    refine r_iload4 dL_law_2048 ?_
    refine n_iconst dL_law_2050 (by decide) (fun r2050 e2050 => ?_)
    refine n_iadd dL_law_2051 (by omega) (fun r2051 e2051 => ?_)
    refine k_iald (k := i + 2) (v := .int (xs (i + 2))) hT_z (by omega) (by omega) (by omega) rfl dL_law_2052 ?_
    refine q_callV2 zm_RL_271 dL_law_2053 (shM_k hs) (by decide) rfl (by decide) (by first | exact Nat.le_of_ble_eq_true rfl | omega | (dsimp only; omega)) (by first | exact Nat.le_of_ble_eq_true rfl | omega | (dsimp only; omega)) (by first | exact Nat.le_of_ble_eq_true rfl | omega | (dsimp only; omega)) (by first | exact Nat.le_of_ble_eq_true rfl | omega | (dsimp only; omega)) (s_X12_fairest G hs hI1.2.1 hw hI1.2.2.2.2.1 (by have h9 := hI1.2.2.2.2.2.1; omega) (fun hy0 r6 f2_z j2 o6 t6 => ?_) (fun hy0 r6 f2_z j2 e6_z o6 t6 => ?_))
    · exact False.elim (by omega)
    · have hI2 := lwI_mq hI1 o6
      have hl2 : (j2 (X + 260) 0).toInt = y1.toInt := by rw [o6.2.1 (X + 260) (by omega), hj1]
      have he9 : rc.toInt = r6.toInt := by rw [ec, e6_z, eq_best]
      refine r_istore6 dL_law_2056 rfl ?_
      refine r_aloadR2 dL_law_2058 ?_
      refine q_callV0 zm_RL_151 dL_law_2059 (shM_k hs) (by decide) rfl (by first | exact Nat.le_of_ble_eq_true rfl | omega | (dsimp only; omega)) (by first | exact Nat.le_of_ble_eq_true rfl | omega | (dsimp only; omega)) (by first | exact Nat.le_of_ble_eq_true rfl | omega | (dsimp only; omega)) (by first | exact Nat.le_of_ble_eq_true rfl | omega | (dsimp only; omega)) (by first | exact Nat.le_of_ble_eq_true rfl | omega | (dsimp only; omega)) (s_X12_thrown G hs (fun r7 e7_z => ?_))
      have e7i : r7.toInt = (f2_z (X + 239) 4).toInt := by rw [e7_z]
      refine r_iload5 dL_law_2062 ?_
      refine t_iceq (t := 2069) dL_law_2064 (by decide) (fun h2064 => ?_) (fun h2064 => False.elim (by omega))
      refine r_iload5 dL_law_2069 ?_
      refine t_ifne (t := 2086) dL_law_2071 (by decide) (fun h2071 => False.elim (by omega)) (fun h2071 => ?_)
      refine r_aloadR3 dL_law_2074 ?_
      refine n_iconst dL_law_2075 (by decide) (fun r2075 e2075 => ?_)
      refine m_lald (k := 0) (x := (j2 (X + 260) 0)) dL_law_2076 hO.1 hO.2 (by omega) (by omega) (rfl) ?_
      refine r_iload6 dL_law_2077 ?_
      refine n_i2l dL_law_2079 (fun r2079 e2079 => ?_)
      refine n_lcmp dL_law_2080 (fun r2080 e2080 => ?_)
      unfold zcmp at e2080
      refine t_ifeq (t := 2086) dL_law_2081 (by decide) (fun h2081 => ?_) (fun h2081 => False.elim (by omega))
      refine r_goto (t := 2729) dL_law_2086 (by decide) ?_
      refine kk _ _ _ _ _ _ _ ?_ ?_ (lwI_m hI2 (by omega))
      · first | omega | (dsimp only; omega)
      · first | omega | (dsimp only; omega)
set_option maxHeartbeats 4000000 in
set_option maxRecDepth 100000 in
theorem lc_38 {g : zGT} {Rm : Room} {QQ : List Frame → Array Value → State → State → Prop} {hh : List (Nat × Nat × Nat × Nat)} {nm : String} {w : zW} {f : Nat → Nat → Int32} {j : Nat → Nat → Int64} {s X L i N : Nat} {xs : Nat → Int32} {T : zTb} {ty : Nat → zTy} {im : Nat → Option zTb} {p : Nat} {B : Nat → Nat} {th pl : Int} {iv : Int32} {u5 u6 u7 : Option Value} {b : Nat × Nat} (G : zGok g) (hfr : 2048 ≤ Rm.frames) (hlo : 84000 ≤ Rm.locals) (hb1 : b.1 + 951 ≤ Rm.cells) (hb2 : b.2 + 1006 ≤ Rm.slots) (hT_z : ∀ U, g.2.2.2 U → va_T .int s L (fun k => .int (xs k)) (zA g.2.2.1) U U.heap) (hi_z : iv.toInt = (i : Nat)) (hiL : i + 6 ≤ L) (hL : L ≤ 3072) (h_z : lwI w f j X T ty im p B th pl N) (hN_z : N < 1900000000)  (kk : ∀ (u5 u6 u7 : Option Value) w2 f2_z j2 b2, b2.1 ≤ b.1 + 951 → b2.2 ≤ b.2 + 1006 → lwI w2 f2_z j2 X T ty im p B th pl (N + 4) → zR (zVg g Rm QQ hh nm 8 (some .boolean)) cL_law RL 2729 [some (.ref s), some (.ref X), some (.ref (X + 239)), some (.ref (X + 260)), some (.int iv), u5, u6, u7] [] (zM w2 f2_z j2) b2) : zR (zVg g Rm QQ hh nm 8 (some .boolean)) cL_law RL 2145 [some (.ref s), some (.ref X), some (.ref (X + 239)), some (.ref (X + 260)), some (.int iv), u5, u6, u7] [] (zM w f j) b := by
  have hx := h_z.1.1
  have hX := shX_k hx
  have hO := h_z.1.2.2.2.1
  have hs := h_z.1.2.2.2.2.1
  have ht := h_z.1.2.2.2.2.2.1
  have hw := tb_wf ht
  have hS2 := h_z.1.2.1
  have hz := h_z.1.2.2.1
  refine r_aloadR1 dL_law_2145 ?_
  refine r_aloadR0 dL_law_2146 ?_
  refine r_iload4 dL_law_2147 ?_
  refine n_iconst dL_law_2149 (by decide) (fun r2149 e2149 => ?_)
  refine n_iadd dL_law_2150 (by omega) (fun r2150 e2150 => ?_)
  refine k_iald (k := i + 1) (v := .int (xs (i + 1))) hT_z (by omega) (by omega) (by omega) rfl dL_law_2151 ?_
  refine r_aloadR3 dL_law_2152 ?_
  refine q_callW (As := [.ref X, .int (xs (i + 1)), .ref (X + 260)]) (rest := []) zw_keenest dL_law_2153 rfl rfl (by decide) (by first | exact Nat.le_of_ble_eq_true rfl | omega | (dsimp only; omega)) (by first | exact Nat.le_of_ble_eq_true rfl | omega | (dsimp only; omega)) (by first | exact Nat.le_of_ble_eq_true rfl | omega | (dsimp only; omega)) (by first | exact Nat.le_of_ble_eq_true rfl | omega | (dsimp only; omega)) (w_keenest G hX (s_X11_keenest G hx ht h_z.1.2.2.2.2.2.2.1  (fun hc0 n hn => ⟨rfl, fun k1_z ek => ?_⟩) (fun hc0 rc f1_z ec hq => ⟨rc, w, f1_z, j, rfl, rfl, hO.1, hO.2, fun k1_z y1 ek ey => ?_⟩)))
  · have hI1 := lwI_s (n := n) h_z hn
    rw [show zsS (zM w f j) n = zM (zsS w n) f j from rfl]
    have hs := hI1.1.2.2.2.2.1
    have hO := hI1.1.2.2.2.1
    refine r_istore5 dL_law_2156 rfl ?_
    refine r_aloadR2 dL_law_2158 ?_
    refine r_aloadR0 dL_law_2159 ?_
    refine r_iload4 dL_law_2160 ?_
    refine n_iconst dL_law_2162 (by decide) (fun r2162 e2162 => ?_)
    refine n_iadd dL_law_2163 (by omega) (fun r2163 e2163 => ?_)
    refine k_iald (k := i + 1) (v := .int (xs (i + 1))) hT_z (by omega) (by omega) (by omega) rfl dL_law_2164 ?_
    refine q_callV1 zm_RL_277 dL_law_2165 (shM_k hs) (by decide) rfl (by decide) (by first | exact Nat.le_of_ble_eq_true rfl | omega | (dsimp only; omega)) (by first | exact Nat.le_of_ble_eq_true rfl | omega | (dsimp only; omega)) (by first | exact Nat.le_of_ble_eq_true rfl | omega | (dsimp only; omega)) (by first | exact Nat.le_of_ble_eq_true rfl | omega | (dsimp only; omega)) (s_X12_keenest G hs hI1.2.1 hw hI1.2.2.2.2.1 (by have h9 := hI1.2.2.2.2.2.1; omega) (fun hy0 r6 f2_z j2 o6 t6 => ?_) (fun hy0 r6 f2_z j2 e6_z o6 t6 => ?_))
    · have hI2 := lwI_mq hI1 o6
      refine r_istore6 dL_law_2168 rfl ?_
      refine r_aloadR2 dL_law_2170 ?_
      refine q_callV0 zm_RL_151 dL_law_2171 (shM_k hs) (by decide) rfl (by first | exact Nat.le_of_ble_eq_true rfl | omega | (dsimp only; omega)) (by first | exact Nat.le_of_ble_eq_true rfl | omega | (dsimp only; omega)) (by first | exact Nat.le_of_ble_eq_true rfl | omega | (dsimp only; omega)) (by first | exact Nat.le_of_ble_eq_true rfl | omega | (dsimp only; omega)) (by first | exact Nat.le_of_ble_eq_true rfl | omega | (dsimp only; omega)) (s_X12_thrown G hs (fun r7 e7_z => ?_))
      have e7i : r7.toInt = (f2_z (X + 239) 4).toInt := by rw [e7_z]
      refine r_iload5 dL_law_2174 ?_
      refine t_iceq (t := 2181) dL_law_2176 (by decide) (fun h2176 => ?_) (fun h2176 => False.elim (by omega))
      refine r_iload5 dL_law_2181 ?_
      refine t_ifne (t := 2198) dL_law_2183 (by decide) (fun h2183 => ?_) (fun h2183 => False.elim (by omega))
      refine r_goto (t := 2729) dL_law_2198 (by decide) ?_
      refine kk _ _ _ _ _ _ _ ?_ ?_ (lwI_m hI2 (by omega))
      · first | omega | (dsimp only; omega)
      · first | omega | (dsimp only; omega)
    · exact False.elim (by omega)
  · have hI1 := lwI_o (y := y1) (lwI_cq h_z hq)
    have hs := hI1.1.2.2.2.2.1
    have hj1 : zu j (X + 260) 0 y1 (X + 260) 0 = y1 := zu_at
    obtain ⟨j1, hj⟩ : ∃ j9, j9 = zu j (X + 260) 0 y1 := ⟨_, rfl⟩
    rw [← hj] at hI1 hj1 ⊢
    refine r_istore5 dL_law_2156 rfl ?_
    refine r_aloadR2 dL_law_2158 ?_
    refine r_aloadR0 dL_law_2159 ?_
    refine r_iload4 dL_law_2160 ?_
    refine n_iconst dL_law_2162 (by decide) (fun r2162 e2162 => ?_)
    refine n_iadd dL_law_2163 (by omega) (fun r2163 e2163 => ?_)
    refine k_iald (k := i + 1) (v := .int (xs (i + 1))) hT_z (by omega) (by omega) (by omega) rfl dL_law_2164 ?_
    refine q_callV1 zm_RL_277 dL_law_2165 (shM_k hs) (by decide) rfl (by decide) (by first | exact Nat.le_of_ble_eq_true rfl | omega | (dsimp only; omega)) (by first | exact Nat.le_of_ble_eq_true rfl | omega | (dsimp only; omega)) (by first | exact Nat.le_of_ble_eq_true rfl | omega | (dsimp only; omega)) (by first | exact Nat.le_of_ble_eq_true rfl | omega | (dsimp only; omega)) (s_X12_keenest G hs hI1.2.1 hw hI1.2.2.2.2.1 (by have h9 := hI1.2.2.2.2.2.1; omega) (fun hy0 r6 f2_z j2 o6 t6 => ?_) (fun hy0 r6 f2_z j2 e6_z o6 t6 => ?_))
    · exact False.elim (by omega)
    · have hI2 := lwI_mq hI1 o6
      have hl2 : (j2 (X + 260) 0).toInt = y1.toInt := by rw [o6.2.1 (X + 260) (by omega), hj1]
      have he9 : rc.toInt = r6.toInt := by rw [ec, e6_z, eq_kee]
      refine r_istore6 dL_law_2168 rfl ?_
      refine r_aloadR2 dL_law_2170 ?_
      refine q_callV0 zm_RL_151 dL_law_2171 (shM_k hs) (by decide) rfl (by first | exact Nat.le_of_ble_eq_true rfl | omega | (dsimp only; omega)) (by first | exact Nat.le_of_ble_eq_true rfl | omega | (dsimp only; omega)) (by first | exact Nat.le_of_ble_eq_true rfl | omega | (dsimp only; omega)) (by first | exact Nat.le_of_ble_eq_true rfl | omega | (dsimp only; omega)) (by first | exact Nat.le_of_ble_eq_true rfl | omega | (dsimp only; omega)) (s_X12_thrown G hs (fun r7 e7_z => ?_))
      have e7i : r7.toInt = (f2_z (X + 239) 4).toInt := by rw [e7_z]
      refine r_iload5 dL_law_2174 ?_
      refine t_iceq (t := 2181) dL_law_2176 (by decide) (fun h2176 => ?_) (fun h2176 => False.elim (by omega))
      refine r_iload5 dL_law_2181 ?_
      refine t_ifne (t := 2198) dL_law_2183 (by decide) (fun h2183 => False.elim (by omega)) (fun h2183 => ?_)
      refine r_aloadR3 dL_law_2186 ?_
      refine n_iconst dL_law_2187 (by decide) (fun r2187 e2187 => ?_)
      refine m_lald (k := 0) (x := (j2 (X + 260) 0)) dL_law_2188 hO.1 hO.2 (by omega) (by omega) (rfl) ?_
      refine r_iload6 dL_law_2189 ?_
      refine n_i2l dL_law_2191 (fun r2191 e2191 => ?_)
      refine n_lcmp dL_law_2192 (fun r2192 e2192 => ?_)
      unfold zcmp at e2192
      refine t_ifeq (t := 2198) dL_law_2193 (by decide) (fun h2193 => ?_) (fun h2193 => False.elim (by omega))
      refine r_goto (t := 2729) dL_law_2198 (by decide) ?_
      refine kk _ _ _ _ _ _ _ ?_ ?_ (lwI_m hI2 (by omega))
      · first | omega | (dsimp only; omega)
      · first | omega | (dsimp only; omega)
set_option maxHeartbeats 4000000 in
set_option maxRecDepth 100000 in
theorem lc_22 {g : zGT} {Rm : Room} {QQ : List Frame → Array Value → State → State → Prop} {hh : List (Nat × Nat × Nat × Nat)} {nm : String} {w : zW} {f : Nat → Nat → Int32} {j : Nat → Nat → Int64} {s X L i N : Nat} {xs : Nat → Int32} {T : zTb} {ty : Nat → zTy} {im : Nat → Option zTb} {p : Nat} {B : Nat → Nat} {th pl : Int} {iv : Int32} {u5 u6 u7 : Option Value} {b : Nat × Nat} (G : zGok g) (hfr : 2048 ≤ Rm.frames) (hlo : 84000 ≤ Rm.locals) (hb1 : b.1 + 951 ≤ Rm.cells) (hb2 : b.2 + 1006 ≤ Rm.slots) (hT_z : ∀ U, g.2.2.2 U → va_T .int s L (fun k => .int (xs k)) (zA g.2.2.1) U U.heap) (hi_z : iv.toInt = (i : Nat)) (hiL : i + 6 ≤ L) (hL : L ≤ 3072) (h_z : lwI w f j X T ty im p B th pl N) (hN_z : N < 1900000000)  (kk : ∀ (u5 u6 u7 : Option Value) w2 f2_z j2 b2, b2.1 ≤ b.1 + 951 → b2.2 ≤ b.2 + 1006 → lwI w2 f2_z j2 X T ty im p B th pl (N + 4) → zR (zVg g Rm QQ hh nm 8 (some .boolean)) cL_law RL 2729 [some (.ref s), some (.ref X), some (.ref (X + 239)), some (.ref (X + 260)), some (.int iv), u5, u6, u7] [] (zM w2 f2_z j2) b2) : zR (zVg g Rm QQ hh nm 8 (some .boolean)) cL_law RL 1409 [some (.ref s), some (.ref X), some (.ref (X + 239)), some (.ref (X + 260)), some (.int iv), u5, u6, u7] [] (zM w f j) b := by
  have hx := h_z.1.1
  have hX := shX_k hx
  have hO := h_z.1.2.2.2.1
  have hs := h_z.1.2.2.2.2.1
  have ht := h_z.1.2.2.2.2.2.1
  have hw := tb_wf ht
  have hS2 := h_z.1.2.1
  have hz := h_z.1.2.2.1
  refine r_aloadR1 dL_law_1409 ?_
  refine r_aloadR0 dL_law_1410 ?_
  refine r_iload4 dL_law_1411 ?_
  refine n_iconst dL_law_1413 (by decide) (fun r1413 e1413 => ?_)
  refine n_iadd dL_law_1414 (by omega) (fun r1414 e1414 => ?_)
  refine k_iald (k := i + 1) (v := .int (xs (i + 1))) hT_z (by omega) (by omega) (by omega) rfl dL_law_1415 ?_
  refine r_aloadR3 dL_law_1416 ?_
  refine q_callW (As := [.ref X, .int (xs (i + 1)), .ref (X + 260)]) (rest := []) zw_looks dL_law_1417 rfl rfl (by decide) (by first | exact Nat.le_of_ble_eq_true rfl | omega | (dsimp only; omega)) (by first | exact Nat.le_of_ble_eq_true rfl | omega | (dsimp only; omega)) (by first | exact Nat.le_of_ble_eq_true rfl | omega | (dsimp only; omega)) (by first | exact Nat.le_of_ble_eq_true rfl | omega | (dsimp only; omega)) (w_looks G hX (s_X11_looks G hx ht h_z.1.2.2.2.2.2.2.1  (fun hc0 n hn => ⟨rfl, fun k1_z ek => ?_⟩) (fun hc0 rc f1_z ec hq => ⟨rc, w, f1_z, j, rfl, rfl, hO.1, hO.2, fun k1_z y1 ek ey => ?_⟩)))
  · have hI1 := lwI_s (n := n) h_z hn
    rw [show zsS (zM w f j) n = zM (zsS w n) f j from rfl]
    have hs := hI1.1.2.2.2.2.1
    have hO := hI1.1.2.2.2.1
    refine r_istore5 dL_law_1420 rfl ?_
    refine r_aloadR2 dL_law_1422 ?_
    refine r_aloadR0 dL_law_1423 ?_
    refine r_iload4 dL_law_1424 ?_
    refine n_iconst dL_law_1426 (by decide) (fun r1426 e1426 => ?_)
    refine n_iadd dL_law_1427 (by omega) (fun r1427 e1427 => ?_)
    refine k_iald (k := i + 1) (v := .int (xs (i + 1))) hT_z (by omega) (by omega) (by omega) rfl dL_law_1428 ?_
    refine q_callV1 zm_RL_224 dL_law_1429 (shM_k hs) (by decide) rfl (by decide) (by first | exact Nat.le_of_ble_eq_true rfl | omega | (dsimp only; omega)) (by first | exact Nat.le_of_ble_eq_true rfl | omega | (dsimp only; omega)) (by first | exact Nat.le_of_ble_eq_true rfl | omega | (dsimp only; omega)) (by first | exact Nat.le_of_ble_eq_true rfl | omega | (dsimp only; omega)) (s_X12_looks G hs hI1.2.1 hw hI1.2.2.2.2.1 (by have h9 := hI1.2.2.2.2.2.1; omega) (fun hy0 r6 f2_z j2 o6 t6 => ?_) (fun hy0 r6 f2_z j2 e6_z o6 t6 => ?_))
    · have hI2 := lwI_mq hI1 o6
      refine r_istore6 dL_law_1432 rfl ?_
      refine r_aloadR2 dL_law_1434 ?_
      refine q_callV0 zm_RL_151 dL_law_1435 (shM_k hs) (by decide) rfl (by first | exact Nat.le_of_ble_eq_true rfl | omega | (dsimp only; omega)) (by first | exact Nat.le_of_ble_eq_true rfl | omega | (dsimp only; omega)) (by first | exact Nat.le_of_ble_eq_true rfl | omega | (dsimp only; omega)) (by first | exact Nat.le_of_ble_eq_true rfl | omega | (dsimp only; omega)) (by first | exact Nat.le_of_ble_eq_true rfl | omega | (dsimp only; omega)) (s_X12_thrown G hs (fun r7 e7_z => ?_))
      have e7i : r7.toInt = (f2_z (X + 239) 4).toInt := by rw [e7_z]
      refine r_iload5 dL_law_1438 ?_
      refine t_iceq (t := 1445) dL_law_1440 (by decide) (fun h1440 => ?_) (fun h1440 => False.elim (by omega))
      refine r_iload5 dL_law_1445 ?_
      refine t_ifne (t := 1462) dL_law_1447 (by decide) (fun h1447 => ?_) (fun h1447 => False.elim (by omega))
      refine r_goto (t := 2729) dL_law_1462 (by decide) ?_
      refine kk _ _ _ _ _ _ _ ?_ ?_ (lwI_m hI2 (by omega))
      · first | omega | (dsimp only; omega)
      · first | omega | (dsimp only; omega)
    · exact False.elim (by omega)
  · have hI1 := lwI_o (y := y1) (lwI_cq h_z hq)
    have hs := hI1.1.2.2.2.2.1
    have hj1 : zu j (X + 260) 0 y1 (X + 260) 0 = y1 := zu_at
    obtain ⟨j1, hj⟩ : ∃ j9, j9 = zu j (X + 260) 0 y1 := ⟨_, rfl⟩
    rw [← hj] at hI1 hj1 ⊢
    refine r_istore5 dL_law_1420 rfl ?_
    refine r_aloadR2 dL_law_1422 ?_
    refine r_aloadR0 dL_law_1423 ?_
    refine r_iload4 dL_law_1424 ?_
    refine n_iconst dL_law_1426 (by decide) (fun r1426 e1426 => ?_)
    refine n_iadd dL_law_1427 (by omega) (fun r1427 e1427 => ?_)
    refine k_iald (k := i + 1) (v := .int (xs (i + 1))) hT_z (by omega) (by omega) (by omega) rfl dL_law_1428 ?_
    refine q_callV1 zm_RL_224 dL_law_1429 (shM_k hs) (by decide) rfl (by decide) (by first | exact Nat.le_of_ble_eq_true rfl | omega | (dsimp only; omega)) (by first | exact Nat.le_of_ble_eq_true rfl | omega | (dsimp only; omega)) (by first | exact Nat.le_of_ble_eq_true rfl | omega | (dsimp only; omega)) (by first | exact Nat.le_of_ble_eq_true rfl | omega | (dsimp only; omega)) (s_X12_looks G hs hI1.2.1 hw hI1.2.2.2.2.1 (by have h9 := hI1.2.2.2.2.2.1; omega) (fun hy0 r6 f2_z j2 o6 t6 => ?_) (fun hy0 r6 f2_z j2 e6_z o6 t6 => ?_))
    · exact False.elim (by omega)
    · have hI2 := lwI_mq hI1 o6
      have hl2 : (j2 (X + 260) 0).toInt = y1.toInt := by rw [o6.2.1 (X + 260) (by omega), hj1]
      have he9 : rc.toInt = r6.toInt := ec.trans ((congrArg (fun (k : Nat) => (k : Int)) (eq_cnt (pd := fun _ _ => true) (wfT_rch hw))).trans e6_z.symm)
      refine r_istore6 dL_law_1432 rfl ?_
      refine r_aloadR2 dL_law_1434 ?_
      refine q_callV0 zm_RL_151 dL_law_1435 (shM_k hs) (by decide) rfl (by first | exact Nat.le_of_ble_eq_true rfl | omega | (dsimp only; omega)) (by first | exact Nat.le_of_ble_eq_true rfl | omega | (dsimp only; omega)) (by first | exact Nat.le_of_ble_eq_true rfl | omega | (dsimp only; omega)) (by first | exact Nat.le_of_ble_eq_true rfl | omega | (dsimp only; omega)) (by first | exact Nat.le_of_ble_eq_true rfl | omega | (dsimp only; omega)) (s_X12_thrown G hs (fun r7 e7_z => ?_))
      have e7i : r7.toInt = (f2_z (X + 239) 4).toInt := by rw [e7_z]
      refine r_iload5 dL_law_1438 ?_
      refine t_iceq (t := 1445) dL_law_1440 (by decide) (fun h1440 => ?_) (fun h1440 => False.elim (by omega))
      refine r_iload5 dL_law_1445 ?_
      refine t_ifne (t := 1462) dL_law_1447 (by decide) (fun h1447 => False.elim (by omega)) (fun h1447 => ?_)
      refine r_aloadR3 dL_law_1450 ?_
      refine n_iconst dL_law_1451 (by decide) (fun r1451 e1451 => ?_)
      refine m_lald (k := 0) (x := (j2 (X + 260) 0)) dL_law_1452 hO.1 hO.2 (by omega) (by omega) (rfl) ?_
      refine r_iload6 dL_law_1453 ?_
      refine n_i2l dL_law_1455 (fun r1455 e1455 => ?_)
      refine n_lcmp dL_law_1456 (fun r1456 e1456 => ?_)
      unfold zcmp at e1456
      refine t_ifeq (t := 1462) dL_law_1457 (by decide) (fun h1457 => ?_) (fun h1457 => False.elim (by omega))
      refine r_goto (t := 2729) dL_law_1462 (by decide) ?_
      refine kk _ _ _ _ _ _ _ ?_ ?_ (lwI_m hI2 (by omega))
      · first | omega | (dsimp only; omega)
      · first | omega | (dsimp only; omega)
set_option maxHeartbeats 4000000 in
set_option maxRecDepth 100000 in
theorem lc_24 {g : zGT} {Rm : Room} {QQ : List Frame → Array Value → State → State → Prop} {hh : List (Nat × Nat × Nat × Nat)} {nm : String} {w : zW} {f : Nat → Nat → Int32} {j : Nat → Nat → Int64} {s X L i N : Nat} {xs : Nat → Int32} {T : zTb} {ty : Nat → zTy} {im : Nat → Option zTb} {p : Nat} {B : Nat → Nat} {th pl : Int} {iv : Int32} {u5 u6 u7 : Option Value} {b : Nat × Nat} (G : zGok g) (hfr : 2048 ≤ Rm.frames) (hlo : 84000 ≤ Rm.locals) (hb1 : b.1 + 951 ≤ Rm.cells) (hb2 : b.2 + 1006 ≤ Rm.slots) (hT_z : ∀ U, g.2.2.2 U → va_T .int s L (fun k => .int (xs k)) (zA g.2.2.1) U U.heap) (hi_z : iv.toInt = (i : Nat)) (hiL : i + 6 ≤ L) (hL : L ≤ 3072) (h_z : lwI w f j X T ty im p B th pl N) (hN_z : N < 1900000000)  (kk : ∀ (u5 u6 u7 : Option Value) w2 f2_z j2 b2, b2.1 ≤ b.1 + 951 → b2.2 ≤ b.2 + 1006 → lwI w2 f2_z j2 X T ty im p B th pl (N + 4) → zR (zVg g Rm QQ hh nm 8 (some .boolean)) cL_law RL 2729 [some (.ref s), some (.ref X), some (.ref (X + 239)), some (.ref (X + 260)), some (.int iv), u5, u6, u7] [] (zM w2 f2_z j2) b2) : zR (zVg g Rm QQ hh nm 8 (some .boolean)) cL_law RL 1521 [some (.ref s), some (.ref X), some (.ref (X + 239)), some (.ref (X + 260)), some (.int iv), u5, u6, u7] [] (zM w f j) b := by
  have hx := h_z.1.1
  have hX := shX_k hx
  have hO := h_z.1.2.2.2.1
  have hs := h_z.1.2.2.2.2.1
  have ht := h_z.1.2.2.2.2.2.1
  have hw := tb_wf ht
  have hS2 := h_z.1.2.1
  have hz := h_z.1.2.2.1
  refine r_aloadR1 dL_law_1521 ?_
  refine r_aloadR0 dL_law_1522 ?_
  refine r_iload4 dL_law_1523 ?_
  refine n_iconst dL_law_1525 (by decide) (fun r1525 e1525 => ?_)
  refine n_iadd dL_law_1526 (by omega) (fun r1526 e1526 => ?_)
  refine k_iald (k := i + 1) (v := .int (xs (i + 1))) hT_z (by omega) (by omega) (by omega) rfl dL_law_1527 ?_
  refine r_aloadR3 dL_law_1528 ?_
  refine q_callW (As := [.ref X, .int (xs (i + 1)), .ref (X + 260)]) (rest := []) zw_holding dL_law_1529 rfl rfl (by decide) (by first | exact Nat.le_of_ble_eq_true rfl | omega | (dsimp only; omega)) (by first | exact Nat.le_of_ble_eq_true rfl | omega | (dsimp only; omega)) (by first | exact Nat.le_of_ble_eq_true rfl | omega | (dsimp only; omega)) (by first | exact Nat.le_of_ble_eq_true rfl | omega | (dsimp only; omega)) (w_holding G hX (s_X11_holding G hx ht h_z.1.2.2.2.2.2.2.1  (fun hc0 n hn => ⟨rfl, fun k1_z ek => ?_⟩) (fun hc0 rc f1_z ec hq => ⟨rc, w, f1_z, j, rfl, rfl, hO.1, hO.2, fun k1_z y1 ek ey => ?_⟩)))
  · have hI1 := lwI_s (n := n) h_z hn
    rw [show zsS (zM w f j) n = zM (zsS w n) f j from rfl]
    have hs := hI1.1.2.2.2.2.1
    have hO := hI1.1.2.2.2.1
    refine r_istore5 dL_law_1532 rfl ?_
    refine r_aloadR2 dL_law_1534 ?_
    refine r_aloadR0 dL_law_1535 ?_
    refine r_iload4 dL_law_1536 ?_
    refine n_iconst dL_law_1538 (by decide) (fun r1538 e1538 => ?_)
    refine n_iadd dL_law_1539 (by omega) (fun r1539 e1539 => ?_)
    refine k_iald (k := i + 1) (v := .int (xs (i + 1))) hT_z (by omega) (by omega) (by omega) rfl dL_law_1540 ?_
    refine q_callV1 zm_RL_230 dL_law_1541 (shM_k hs) (by decide) rfl (by decide) (by first | exact Nat.le_of_ble_eq_true rfl | omega | (dsimp only; omega)) (by first | exact Nat.le_of_ble_eq_true rfl | omega | (dsimp only; omega)) (by first | exact Nat.le_of_ble_eq_true rfl | omega | (dsimp only; omega)) (by first | exact Nat.le_of_ble_eq_true rfl | omega | (dsimp only; omega)) (s_X12_holding G hs hI1.2.1 hw hI1.2.2.2.2.1 (by have h9 := hI1.2.2.2.2.2.1; omega) (fun hy0 r6 f2_z j2 o6 t6 => ?_) (fun hy0 r6 f2_z j2 e6_z o6 t6 => ?_))
    · have hI2 := lwI_mq hI1 o6
      refine r_istore6 dL_law_1544 rfl ?_
      refine r_aloadR2 dL_law_1546 ?_
      refine q_callV0 zm_RL_151 dL_law_1547 (shM_k hs) (by decide) rfl (by first | exact Nat.le_of_ble_eq_true rfl | omega | (dsimp only; omega)) (by first | exact Nat.le_of_ble_eq_true rfl | omega | (dsimp only; omega)) (by first | exact Nat.le_of_ble_eq_true rfl | omega | (dsimp only; omega)) (by first | exact Nat.le_of_ble_eq_true rfl | omega | (dsimp only; omega)) (by first | exact Nat.le_of_ble_eq_true rfl | omega | (dsimp only; omega)) (s_X12_thrown G hs (fun r7 e7_z => ?_))
      have e7i : r7.toInt = (f2_z (X + 239) 4).toInt := by rw [e7_z]
      refine r_iload5 dL_law_1550 ?_
      refine t_iceq (t := 1557) dL_law_1552 (by decide) (fun h1552 => ?_) (fun h1552 => False.elim (by omega))
      refine r_iload5 dL_law_1557 ?_
      refine t_ifne (t := 1574) dL_law_1559 (by decide) (fun h1559 => ?_) (fun h1559 => False.elim (by omega))
      refine r_goto (t := 2729) dL_law_1574 (by decide) ?_
      refine kk _ _ _ _ _ _ _ ?_ ?_ (lwI_m hI2 (by omega))
      · first | omega | (dsimp only; omega)
      · first | omega | (dsimp only; omega)
    · exact False.elim (by omega)
  · have hI1 := lwI_o (y := y1) (lwI_cq h_z hq)
    have hs := hI1.1.2.2.2.2.1
    have hj1 : zu j (X + 260) 0 y1 (X + 260) 0 = y1 := zu_at
    obtain ⟨j1, hj⟩ : ∃ j9, j9 = zu j (X + 260) 0 y1 := ⟨_, rfl⟩
    rw [← hj] at hI1 hj1 ⊢
    refine r_istore5 dL_law_1532 rfl ?_
    refine r_aloadR2 dL_law_1534 ?_
    refine r_aloadR0 dL_law_1535 ?_
    refine r_iload4 dL_law_1536 ?_
    refine n_iconst dL_law_1538 (by decide) (fun r1538 e1538 => ?_)
    refine n_iadd dL_law_1539 (by omega) (fun r1539 e1539 => ?_)
    refine k_iald (k := i + 1) (v := .int (xs (i + 1))) hT_z (by omega) (by omega) (by omega) rfl dL_law_1540 ?_
    refine q_callV1 zm_RL_230 dL_law_1541 (shM_k hs) (by decide) rfl (by decide) (by first | exact Nat.le_of_ble_eq_true rfl | omega | (dsimp only; omega)) (by first | exact Nat.le_of_ble_eq_true rfl | omega | (dsimp only; omega)) (by first | exact Nat.le_of_ble_eq_true rfl | omega | (dsimp only; omega)) (by first | exact Nat.le_of_ble_eq_true rfl | omega | (dsimp only; omega)) (s_X12_holding G hs hI1.2.1 hw hI1.2.2.2.2.1 (by have h9 := hI1.2.2.2.2.2.1; omega) (fun hy0 r6 f2_z j2 o6 t6 => ?_) (fun hy0 r6 f2_z j2 e6_z o6 t6 => ?_))
    · exact False.elim (by omega)
    · have hI2 := lwI_mq hI1 o6
      have hl2 : (j2 (X + 260) 0).toInt = y1.toInt := by rw [o6.2.1 (X + 260) (by omega), hj1]
      have he9 : rc.toInt = r6.toInt := ec.trans ((congrArg (fun (k : Nat) => (k : Int)) (eq_cnt (pd := fun L d => decide (holV T L (T.2.2.1.2.length + d) ≠ 0)) (wfT_rch hw))).trans e6_z.symm)
      refine r_istore6 dL_law_1544 rfl ?_
      refine r_aloadR2 dL_law_1546 ?_
      refine q_callV0 zm_RL_151 dL_law_1547 (shM_k hs) (by decide) rfl (by first | exact Nat.le_of_ble_eq_true rfl | omega | (dsimp only; omega)) (by first | exact Nat.le_of_ble_eq_true rfl | omega | (dsimp only; omega)) (by first | exact Nat.le_of_ble_eq_true rfl | omega | (dsimp only; omega)) (by first | exact Nat.le_of_ble_eq_true rfl | omega | (dsimp only; omega)) (by first | exact Nat.le_of_ble_eq_true rfl | omega | (dsimp only; omega)) (s_X12_thrown G hs (fun r7 e7_z => ?_))
      have e7i : r7.toInt = (f2_z (X + 239) 4).toInt := by rw [e7_z]
      refine r_iload5 dL_law_1550 ?_
      refine t_iceq (t := 1557) dL_law_1552 (by decide) (fun h1552 => ?_) (fun h1552 => False.elim (by omega))
      refine r_iload5 dL_law_1557 ?_
      refine t_ifne (t := 1574) dL_law_1559 (by decide) (fun h1559 => False.elim (by omega)) (fun h1559 => ?_)
      refine r_aloadR3 dL_law_1562 ?_
      refine n_iconst dL_law_1563 (by decide) (fun r1563 e1563 => ?_)
      refine m_lald (k := 0) (x := (j2 (X + 260) 0)) dL_law_1564 hO.1 hO.2 (by omega) (by omega) (rfl) ?_
      refine r_iload6 dL_law_1565 ?_
      refine n_i2l dL_law_1567 (fun r1567 e1567 => ?_)
      refine n_lcmp dL_law_1568 (fun r1568 e1568 => ?_)
      unfold zcmp at e1568
      refine t_ifeq (t := 1574) dL_law_1569 (by decide) (fun h1569 => ?_) (fun h1569 => False.elim (by omega))
      refine r_goto (t := 2729) dL_law_1574 (by decide) ?_
      refine kk _ _ _ _ _ _ _ ?_ ?_ (lwI_m hI2 (by omega))
      · first | omega | (dsimp only; omega)
      · first | omega | (dsimp only; omega)
set_option maxHeartbeats 4000000 in
set_option maxRecDepth 100000 in
theorem lc_37 {g : zGT} {Rm : Room} {QQ : List Frame → Array Value → State → State → Prop} {hh : List (Nat × Nat × Nat × Nat)} {nm : String} {w : zW} {f : Nat → Nat → Int32} {j : Nat → Nat → Int64} {s X L i N : Nat} {xs : Nat → Int32} {T : zTb} {ty : Nat → zTy} {im : Nat → Option zTb} {p : Nat} {B : Nat → Nat} {th pl : Int} {iv : Int32} {u5 u6 u7 : Option Value} {b : Nat × Nat} (G : zGok g) (hfr : 2048 ≤ Rm.frames) (hlo : 84000 ≤ Rm.locals) (hb1 : b.1 + 951 ≤ Rm.cells) (hb2 : b.2 + 1006 ≤ Rm.slots) (hT_z : ∀ U, g.2.2.2 U → va_T .int s L (fun k => .int (xs k)) (zA g.2.2.1) U U.heap) (hi_z : iv.toInt = (i : Nat)) (hiL : i + 6 ≤ L) (hL : L ≤ 3072) (h_z : lwI w f j X T ty im p B th pl N) (hN_z : N < 1900000000)  (kk : ∀ (u5 u6 u7 : Option Value) w2 f2_z j2 b2, b2.1 ≤ b.1 + 951 → b2.2 ≤ b.2 + 1006 → lwI w2 f2_z j2 X T ty im p B th pl (N + 4) → zR (zVg g Rm QQ hh nm 8 (some .boolean)) cL_law RL 2729 [some (.ref s), some (.ref X), some (.ref (X + 239)), some (.ref (X + 260)), some (.int iv), u5, u6, u7] [] (zM w2 f2_z j2) b2) : zR (zVg g Rm QQ hh nm 8 (some .boolean)) cL_law RL 2089 [some (.ref s), some (.ref X), some (.ref (X + 239)), some (.ref (X + 260)), some (.int iv), u5, u6, u7] [] (zM w f j) b := by
  have hx := h_z.1.1
  have hX := shX_k hx
  have hO := h_z.1.2.2.2.1
  have hs := h_z.1.2.2.2.2.1
  have ht := h_z.1.2.2.2.2.2.1
  have hw := tb_wf ht
  have hS2 := h_z.1.2.1
  have hz := h_z.1.2.2.1
  refine r_aloadR1 dL_law_2089 ?_
  refine r_aloadR0 dL_law_2090 ?_
  refine r_iload4 dL_law_2091 ?_
  refine n_iconst dL_law_2093 (by decide) (fun r2093 e2093 => ?_)
  refine n_iadd dL_law_2094 (by omega) (fun r2094 e2094 => ?_)
  refine k_iald (k := i + 1) (v := .int (xs (i + 1))) hT_z (by omega) (by omega) (by omega) rfl dL_law_2095 ?_
  refine r_aloadR3 dL_law_2096 ?_
  refine q_callW (As := [.ref X, .int (xs (i + 1)), .ref (X + 260)]) (rest := []) zw_better dL_law_2097 rfl rfl (by decide) (by first | exact Nat.le_of_ble_eq_true rfl | omega | (dsimp only; omega)) (by first | exact Nat.le_of_ble_eq_true rfl | omega | (dsimp only; omega)) (by first | exact Nat.le_of_ble_eq_true rfl | omega | (dsimp only; omega)) (by first | exact Nat.le_of_ble_eq_true rfl | omega | (dsimp only; omega)) (w_better G hX (s_X11_better G hx ht h_z.1.2.2.2.2.2.2.1  (fun hc0 n hn => ⟨rfl, fun k1_z ek => ?_⟩) (fun hc0 rc f1_z ec hq => ⟨rc, w, f1_z, j, rfl, rfl, hO.1, hO.2, fun k1_z y1 ek ey => ?_⟩)))
  · have hI1 := lwI_s (n := n) h_z hn
    rw [show zsS (zM w f j) n = zM (zsS w n) f j from rfl]
    have hs := hI1.1.2.2.2.2.1
    have hO := hI1.1.2.2.2.1
    refine r_istore5 dL_law_2100 rfl ?_
    refine r_aloadR2 dL_law_2102 ?_
    refine r_aloadR0 dL_law_2103 ?_
    refine r_iload4 dL_law_2104 ?_
    refine n_iconst dL_law_2106 (by decide) (fun r2106 e2106 => ?_)
    refine n_iadd dL_law_2107 (by omega) (fun r2107 e2107 => ?_)
    refine k_iald (k := i + 1) (v := .int (xs (i + 1))) hT_z (by omega) (by omega) (by omega) rfl dL_law_2108 ?_
    refine q_callV1 zm_RL_274 dL_law_2109 (shM_k hs) (by decide) rfl (by decide) (by first | exact Nat.le_of_ble_eq_true rfl | omega | (dsimp only; omega)) (by first | exact Nat.le_of_ble_eq_true rfl | omega | (dsimp only; omega)) (by first | exact Nat.le_of_ble_eq_true rfl | omega | (dsimp only; omega)) (by first | exact Nat.le_of_ble_eq_true rfl | omega | (dsimp only; omega)) (s_X12_better G hs hI1.2.1 hw hI1.2.2.2.2.1 (by have h9 := hI1.2.2.2.2.2.1; omega) (fun hy0 r6 f2_z j2 o6 t6 => ?_) (fun hy0 r6 f2_z j2 e6_z o6 t6 => ?_))
    · have hI2 := lwI_mq hI1 o6
      refine r_istore6 dL_law_2112 rfl ?_
      refine r_aloadR2 dL_law_2114 ?_
      refine q_callV0 zm_RL_151 dL_law_2115 (shM_k hs) (by decide) rfl (by first | exact Nat.le_of_ble_eq_true rfl | omega | (dsimp only; omega)) (by first | exact Nat.le_of_ble_eq_true rfl | omega | (dsimp only; omega)) (by first | exact Nat.le_of_ble_eq_true rfl | omega | (dsimp only; omega)) (by first | exact Nat.le_of_ble_eq_true rfl | omega | (dsimp only; omega)) (by first | exact Nat.le_of_ble_eq_true rfl | omega | (dsimp only; omega)) (s_X12_thrown G hs (fun r7 e7_z => ?_))
      have e7i : r7.toInt = (f2_z (X + 239) 4).toInt := by rw [e7_z]
      refine r_iload5 dL_law_2118 ?_
      refine t_iceq (t := 2125) dL_law_2120 (by decide) (fun h2120 => ?_) (fun h2120 => False.elim (by omega))
      refine r_iload5 dL_law_2125 ?_
      refine t_ifne (t := 2142) dL_law_2127 (by decide) (fun h2127 => ?_) (fun h2127 => False.elim (by omega))
      refine r_goto (t := 2729) dL_law_2142 (by decide) ?_
      refine kk _ _ _ _ _ _ _ ?_ ?_ (lwI_m hI2 (by omega))
      · first | omega | (dsimp only; omega)
      · first | omega | (dsimp only; omega)
    · exact False.elim (by omega)
  · have hI1 := lwI_o (y := y1) (lwI_cq h_z hq)
    have hs := hI1.1.2.2.2.2.1
    have hj1 : zu j (X + 260) 0 y1 (X + 260) 0 = y1 := zu_at
    obtain ⟨j1, hj⟩ : ∃ j9, j9 = zu j (X + 260) 0 y1 := ⟨_, rfl⟩
    rw [← hj] at hI1 hj1 ⊢
    refine r_istore5 dL_law_2100 rfl ?_
    refine r_aloadR2 dL_law_2102 ?_
    refine r_aloadR0 dL_law_2103 ?_
    refine r_iload4 dL_law_2104 ?_
    refine n_iconst dL_law_2106 (by decide) (fun r2106 e2106 => ?_)
    refine n_iadd dL_law_2107 (by omega) (fun r2107 e2107 => ?_)
    refine k_iald (k := i + 1) (v := .int (xs (i + 1))) hT_z (by omega) (by omega) (by omega) rfl dL_law_2108 ?_
    refine q_callV1 zm_RL_274 dL_law_2109 (shM_k hs) (by decide) rfl (by decide) (by first | exact Nat.le_of_ble_eq_true rfl | omega | (dsimp only; omega)) (by first | exact Nat.le_of_ble_eq_true rfl | omega | (dsimp only; omega)) (by first | exact Nat.le_of_ble_eq_true rfl | omega | (dsimp only; omega)) (by first | exact Nat.le_of_ble_eq_true rfl | omega | (dsimp only; omega)) (s_X12_better G hs hI1.2.1 hw hI1.2.2.2.2.1 (by have h9 := hI1.2.2.2.2.2.1; omega) (fun hy0 r6 f2_z j2 o6 t6 => ?_) (fun hy0 r6 f2_z j2 e6_z o6 t6 => ?_))
    · exact False.elim (by omega)
    · have hI2 := lwI_mq hI1 o6
      have hl2 : (j2 (X + 260) 0).toInt = y1.toInt := by rw [o6.2.1 (X + 260) (by omega), hj1]
      have he9 : rc.toInt = r6.toInt := ec.trans ((congrArg (fun (k : Nat) => (k : Int)) (eq_cnt (pd := fun L d => decide (plV (likV T (tbL T) T.2.2.1.2.length) (likV T L (T.2.2.1.2.length + d)) (tbG T) ≠ 0)) (wfT_rch hw))).trans e6_z.symm)
      refine r_istore6 dL_law_2112 rfl ?_
      refine r_aloadR2 dL_law_2114 ?_
      refine q_callV0 zm_RL_151 dL_law_2115 (shM_k hs) (by decide) rfl (by first | exact Nat.le_of_ble_eq_true rfl | omega | (dsimp only; omega)) (by first | exact Nat.le_of_ble_eq_true rfl | omega | (dsimp only; omega)) (by first | exact Nat.le_of_ble_eq_true rfl | omega | (dsimp only; omega)) (by first | exact Nat.le_of_ble_eq_true rfl | omega | (dsimp only; omega)) (by first | exact Nat.le_of_ble_eq_true rfl | omega | (dsimp only; omega)) (s_X12_thrown G hs (fun r7 e7_z => ?_))
      have e7i : r7.toInt = (f2_z (X + 239) 4).toInt := by rw [e7_z]
      refine r_iload5 dL_law_2118 ?_
      refine t_iceq (t := 2125) dL_law_2120 (by decide) (fun h2120 => ?_) (fun h2120 => False.elim (by omega))
      refine r_iload5 dL_law_2125 ?_
      refine t_ifne (t := 2142) dL_law_2127 (by decide) (fun h2127 => False.elim (by omega)) (fun h2127 => ?_)
      refine r_aloadR3 dL_law_2130 ?_
      refine n_iconst dL_law_2131 (by decide) (fun r2131 e2131 => ?_)
      refine m_lald (k := 0) (x := (j2 (X + 260) 0)) dL_law_2132 hO.1 hO.2 (by omega) (by omega) (rfl) ?_
      refine r_iload6 dL_law_2133 ?_
      refine n_i2l dL_law_2135 (fun r2135 e2135 => ?_)
      refine n_lcmp dL_law_2136 (fun r2136 e2136 => ?_)
      unfold zcmp at e2136
      refine t_ifeq (t := 2142) dL_law_2137 (by decide) (fun h2137 => ?_) (fun h2137 => False.elim (by omega))
      refine r_goto (t := 2729) dL_law_2142 (by decide) ?_
      refine kk _ _ _ _ _ _ _ ?_ ?_ (lwI_m hI2 (by omega))
      · first | omega | (dsimp only; omega)
      · first | omega | (dsimp only; omega)
