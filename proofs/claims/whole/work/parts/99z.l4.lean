/-! the law: the cases, fourth part -/
theorem fI_o (o : Option zRw) (x : Int) : findI o x = fstI (o.map (fun y => ((y.1, y.2.1) : zRo))) x := by cases o <;> rfl
theorem dI_o (o : Option zRw) : depI o = dpR (o.map (fun y => ((y.1, y.2.1) : zRo))) := by cases o <;> rfl
theorem fd_o (o : Option zRw) (x : Int) : fdI o x = fdR (o.map (fun y => ((y.1, y.2.1) : zRo))) x := by cases o <;> rfl
theorem fI_e {pd : zLy → Nat → Bool} {L : zLy} {k : Nat} {x : Int} : findI (findW (fun L r => pd L r.length) (levs L k)) x = fstI (fstR (fun L r => pd L r.length) (allF k L)) x := (fI_o _ _).trans (congrArg (fun o => fstI o x) eq_find)
theorem dI_e {pd : zLy → Nat → Bool} {L : zLy} {k : Nat} : depI (findW (fun L r => pd L r.length) (levs L k)) = dpR (fstR (fun L r => pd L r.length) (allF k L)) := (dI_o _).trans (congrArg dpR eq_find)
theorem fd_e {pd : zLy → Nat → Bool} {L : zLy} {k : Nat} {x : Int} : fdI (findW (fun L r => pd L r.length) (levs L k)) x = fdR (fstR (fun L r => pd L r.length) (allF k L)) x := (fd_o _ _).trans (congrArg (fun o => fdR o x) eq_find)
set_option maxHeartbeats 4000000 in
set_option maxRecDepth 100000 in
theorem lc_23 {g : zGT} {Rm : Room} {QQ : List Frame → Array Value → State → State → Prop} {hh : List (Nat × Nat × Nat × Nat)} {nm : String} {w : zW} {f : Nat → Nat → Int32} {j : Nat → Nat → Int64} {s X L i N : Nat} {xs : Nat → Int32} {T : zTb} {ty : Nat → zTy} {im : Nat → Option zTb} {p : Nat} {B : Nat → Nat} {th pl : Int} {iv : Int32} {u5 u6 u7 : Option Value} {b : Nat × Nat} (G : zGok g) (hfr : 2048 ≤ Rm.frames) (hlo : 84000 ≤ Rm.locals) (hb1 : b.1 + 951 ≤ Rm.cells) (hb2 : b.2 + 1006 ≤ Rm.slots) (hT_z : ∀ U, g.2.2.2 U → va_T .int s L (fun k => .int (xs k)) (zA g.2.2.1) U U.heap) (hi_z : iv.toInt = (i : Nat)) (hiL : i + 6 ≤ L) (hL : L ≤ 3072) (h_z : lwI w f j X T ty im p B th pl N) (hN_z : N < 1900000000)  (kk : ∀ (u5 u6 u7 : Option Value) w2 f2_z j2 b2, b2.1 ≤ b.1 + 951 → b2.2 ≤ b.2 + 1006 → lwI w2 f2_z j2 X T ty im p B th pl (N + 4) → zR (zVg g Rm QQ hh nm 8 (some .boolean)) cL_law RL 2729 [some (.ref s), some (.ref X), some (.ref (X + 239)), some (.ref (X + 260)), some (.int iv), u5, u6, u7] [] (zM w2 f2_z j2) b2) : zR (zVg g Rm QQ hh nm 8 (some .boolean)) cL_law RL 1465 [some (.ref s), some (.ref X), some (.ref (X + 239)), some (.ref (X + 260)), some (.int iv), u5, u6, u7] [] (zM w f j) b := by
  have hx := h_z.1.1
  have hX := shX_k hx
  have hO := h_z.1.2.2.2.1
  have hs := h_z.1.2.2.2.2.1
  have ht := h_z.1.2.2.2.2.2.1
  have hw := tb_wf ht
  have hS2 := h_z.1.2.1
  have hz := h_z.1.2.2.1
  refine r_aloadR1 dL_law_1465 ?_
  refine r_aloadR0 dL_law_1466 ?_
  refine r_iload4 dL_law_1467 ?_
  refine n_iconst dL_law_1469 (by decide) (fun r1469 e1469 => ?_)
  refine n_iadd dL_law_1470 (by omega) (fun r1470 e1470 => ?_)
  refine k_iald (k := i + 1) (v := .int (xs (i + 1))) hT_z (by omega) (by omega) (by omega) rfl dL_law_1471 ?_
  refine r_aloadR3 dL_law_1472 ?_
  refine q_callW (As := [.ref X, .int (xs (i + 1)), .ref (X + 260)]) (rest := []) zw_soonest dL_law_1473 rfl rfl (by decide) (by first | exact Nat.le_of_ble_eq_true rfl | omega | (dsimp only; omega)) (by first | exact Nat.le_of_ble_eq_true rfl | omega | (dsimp only; omega)) (by first | exact Nat.le_of_ble_eq_true rfl | omega | (dsimp only; omega)) (by first | exact Nat.le_of_ble_eq_true rfl | omega | (dsimp only; omega)) (w_soonest G hX (s_X11_soonest G hx ht h_z.1.2.2.2.2.2.2.1  (fun hc0 n hn => ⟨rfl, fun k1_z ek => ?_⟩) (fun hc0 rc f1_z ec hq => ⟨rc, w, f1_z, j, rfl, rfl, hO.1, hO.2, fun k1_z y1 ek ey => ?_⟩)))
  · have hI1 := lwI_s (n := n) h_z hn
    rw [show zsS (zM w f j) n = zM (zsS w n) f j from rfl]
    have hs := hI1.1.2.2.2.2.1
    have hO := hI1.1.2.2.2.1
    refine r_istore5 dL_law_1476 rfl ?_
    refine r_aloadR2 dL_law_1478 ?_
    refine r_aloadR0 dL_law_1479 ?_
    refine r_iload4 dL_law_1480 ?_
    refine n_iconst dL_law_1482 (by decide) (fun r1482 e1482 => ?_)
    refine n_iadd dL_law_1483 (by omega) (fun r1483 e1483 => ?_)
    refine k_iald (k := i + 1) (v := .int (xs (i + 1))) hT_z (by omega) (by omega) (by omega) rfl dL_law_1484 ?_
    refine q_callV1 zm_RL_227 dL_law_1485 (shM_k hs) (by decide) rfl (by decide) (by first | exact Nat.le_of_ble_eq_true rfl | omega | (dsimp only; omega)) (by first | exact Nat.le_of_ble_eq_true rfl | omega | (dsimp only; omega)) (by first | exact Nat.le_of_ble_eq_true rfl | omega | (dsimp only; omega)) (by first | exact Nat.le_of_ble_eq_true rfl | omega | (dsimp only; omega)) (s_X12_soonest G hs hI1.2.1 hw hI1.2.2.2.2.1 (by have h9 := hI1.2.2.2.2.2.1; omega) hI1.2.2.1 (fun hy0 r6 f2_z j2 o6 t6 => ?_) (fun hy0 r6 f2_z j2 e6_z o6 t6 => ?_))
    · have hI2 := lwI_mq hI1 o6
      refine r_istore6 dL_law_1488 rfl ?_
      refine r_aloadR2 dL_law_1490 ?_
      refine q_callV0 zm_RL_151 dL_law_1491 (shM_k hs) (by decide) rfl (by first | exact Nat.le_of_ble_eq_true rfl | omega | (dsimp only; omega)) (by first | exact Nat.le_of_ble_eq_true rfl | omega | (dsimp only; omega)) (by first | exact Nat.le_of_ble_eq_true rfl | omega | (dsimp only; omega)) (by first | exact Nat.le_of_ble_eq_true rfl | omega | (dsimp only; omega)) (by first | exact Nat.le_of_ble_eq_true rfl | omega | (dsimp only; omega)) (s_X12_thrown G hs (fun r7 e7_z => ?_))
      have e7i : r7.toInt = (f2_z (X + 239) 4).toInt := by rw [e7_z]
      refine r_iload5 dL_law_1494 ?_
      refine t_iceq (t := 1501) dL_law_1496 (by decide) (fun h1496 => ?_) (fun h1496 => False.elim (by omega))
      refine r_iload5 dL_law_1501 ?_
      refine t_ifne (t := 1518) dL_law_1503 (by decide) (fun h1503 => ?_) (fun h1503 => False.elim (by omega))
      refine r_goto (t := 2729) dL_law_1518 (by decide) ?_
      refine kk _ _ _ _ _ _ _ ?_ ?_ (lwI_m hI2 (by omega))
      · first | omega | (dsimp only; omega)
      · first | omega | (dsimp only; omega)
    · exact False.elim (by first | omega | (rw [hc1] at hy1; cases hy1; done) | exact hc1 hy1 | exact hy1 hc1 | (cases Option.some.inj (hc1.symm.trans hy1); first | exact hc2 hy2 | exact hy2 hc2))
  · have hI1 := lwI_o (y := y1) (lwI_cq h_z hq)
    have hs := hI1.1.2.2.2.2.1
    have hj1 : zu j (X + 260) 0 y1 (X + 260) 0 = y1 := zu_at
    obtain ⟨j1, hj⟩ : ∃ j9, j9 = zu j (X + 260) 0 y1 := ⟨_, rfl⟩
    rw [← hj] at hI1 hj1 ⊢
    refine r_istore5 dL_law_1476 rfl ?_
    refine r_aloadR2 dL_law_1478 ?_
    refine r_aloadR0 dL_law_1479 ?_
    refine r_iload4 dL_law_1480 ?_
    refine n_iconst dL_law_1482 (by decide) (fun r1482 e1482 => ?_)
    refine n_iadd dL_law_1483 (by omega) (fun r1483 e1483 => ?_)
    refine k_iald (k := i + 1) (v := .int (xs (i + 1))) hT_z (by omega) (by omega) (by omega) rfl dL_law_1484 ?_
    refine q_callV1 zm_RL_227 dL_law_1485 (shM_k hs) (by decide) rfl (by decide) (by first | exact Nat.le_of_ble_eq_true rfl | omega | (dsimp only; omega)) (by first | exact Nat.le_of_ble_eq_true rfl | omega | (dsimp only; omega)) (by first | exact Nat.le_of_ble_eq_true rfl | omega | (dsimp only; omega)) (by first | exact Nat.le_of_ble_eq_true rfl | omega | (dsimp only; omega)) (s_X12_soonest G hs hI1.2.1 hw hI1.2.2.2.2.1 (by have h9 := hI1.2.2.2.2.2.1; omega) hI1.2.2.1 (fun hy0 r6 f2_z j2 o6 t6 => ?_) (fun hy0 r6 f2_z j2 e6_z o6 t6 => ?_))
    · exact False.elim (by first | omega | (rw [hc1] at hy1; cases hy1; done) | exact hc1 hy1 | exact hy1 hc1 | (cases Option.some.inj (hc1.symm.trans hy1); first | exact hc2 hy2 | exact hy2 hc2))
    · have hI2 := lwI_mq hI1 o6
      have hl2 : (j2 (X + 260) 0).toInt = y1.toInt := by rw [o6.2.1 (X + 260) (by omega), hj1]
      have he9 : rc.toInt = r6.toInt := by rw [ec, e6_z]; exact fI_e (pd := fun L d => decide (holV T L (T.2.2.1.2.length + d) ≠ 0)) (k := 6)
      refine r_istore6 dL_law_1488 rfl ?_
      refine r_aloadR2 dL_law_1490 ?_
      refine q_callV0 zm_RL_151 dL_law_1491 (shM_k hs) (by decide) rfl (by first | exact Nat.le_of_ble_eq_true rfl | omega | (dsimp only; omega)) (by first | exact Nat.le_of_ble_eq_true rfl | omega | (dsimp only; omega)) (by first | exact Nat.le_of_ble_eq_true rfl | omega | (dsimp only; omega)) (by first | exact Nat.le_of_ble_eq_true rfl | omega | (dsimp only; omega)) (by first | exact Nat.le_of_ble_eq_true rfl | omega | (dsimp only; omega)) (s_X12_thrown G hs (fun r7 e7_z => ?_))
      have e7i : r7.toInt = (f2_z (X + 239) 4).toInt := by rw [e7_z]
      refine r_iload5 dL_law_1494 ?_
      refine t_iceq (t := 1501) dL_law_1496 (by decide) (fun h1496 => ?_) (fun h1496 => False.elim (by omega))
      refine r_iload5 dL_law_1501 ?_
      refine t_ifne (t := 1518) dL_law_1503 (by decide) (fun h1503 => False.elim (by omega)) (fun h1503 => ?_)
      refine r_aloadR3 dL_law_1506 ?_
      refine n_iconst dL_law_1507 (by decide) (fun r1507 e1507 => ?_)
      refine m_lald (k := 0) (x := (j2 (X + 260) 0)) dL_law_1508 hO.1 hO.2 (by omega) (by omega) (rfl) ?_
      refine r_iload6 dL_law_1509 ?_
      refine n_i2l dL_law_1511 (fun r1511 e1511 => ?_)
      refine n_lcmp dL_law_1512 (fun r1512 e1512 => ?_)
      unfold zcmp at e1512
      refine t_ifeq (t := 1518) dL_law_1513 (by decide) (fun h1513 => ?_) (fun h1513 => False.elim (by omega))
      refine r_goto (t := 2729) dL_law_1518 (by decide) ?_
      refine kk _ _ _ _ _ _ _ ?_ ?_ (lwI_m hI2 (by omega))
      · first | omega | (dsimp only; omega)
      · first | omega | (dsimp only; omega)
set_option maxHeartbeats 4000000 in
set_option maxRecDepth 100000 in
theorem lc_26 {g : zGT} {Rm : Room} {QQ : List Frame → Array Value → State → State → Prop} {hh : List (Nat × Nat × Nat × Nat)} {nm : String} {w : zW} {f : Nat → Nat → Int32} {j : Nat → Nat → Int64} {s X L i N : Nat} {xs : Nat → Int32} {T : zTb} {ty : Nat → zTy} {im : Nat → Option zTb} {p : Nat} {B : Nat → Nat} {th pl : Int} {iv : Int32} {u5 u6 u7 : Option Value} {b : Nat × Nat} (G : zGok g) (hfr : 2048 ≤ Rm.frames) (hlo : 84000 ≤ Rm.locals) (hb1 : b.1 + 951 ≤ Rm.cells) (hb2 : b.2 + 1006 ≤ Rm.slots) (hT_z : ∀ U, g.2.2.2 U → va_T .int s L (fun k => .int (xs k)) (zA g.2.2.1) U U.heap) (hi_z : iv.toInt = (i : Nat)) (hiL : i + 6 ≤ L) (hL : L ≤ 3072) (h_z : lwI w f j X T ty im p B th pl N) (hN_z : N < 1900000000)  (kk : ∀ (u5 u6 u7 : Option Value) w2 f2_z j2 b2, b2.1 ≤ b.1 + 951 → b2.2 ≤ b.2 + 1006 → lwI w2 f2_z j2 X T ty im p B th pl (N + 4) → zR (zVg g Rm QQ hh nm 8 (some .boolean)) cL_law RL 2729 [some (.ref s), some (.ref X), some (.ref (X + 239)), some (.ref (X + 260)), some (.int iv), u5, u6, u7] [] (zM w2 f2_z j2) b2) : zR (zVg g Rm QQ hh nm 8 (some .boolean)) cL_law RL 1645 [some (.ref s), some (.ref X), some (.ref (X + 239)), some (.ref (X + 260)), some (.int iv), u5, u6, u7] [] (zM w f j) b := by
  have hx := h_z.1.1
  have hX := shX_k hx
  have hO := h_z.1.2.2.2.1
  have hs := h_z.1.2.2.2.2.1
  have ht := h_z.1.2.2.2.2.2.1
  have hw := tb_wf ht
  have hS2 := h_z.1.2.1
  have hz := h_z.1.2.2.1
  refine r_aloadR1 dL_law_1645 ?_
  refine r_aloadR0 dL_law_1646 ?_
  refine r_iload4 dL_law_1647 ?_
  refine n_iconst dL_law_1649 (by decide) (fun r1649 e1649 => ?_)
  refine n_iadd dL_law_1650 (by omega) (fun r1650 e1650 => ?_)
  refine k_iald (k := i + 1) (v := .int (xs (i + 1))) hT_z (by omega) (by omega) (by omega) rfl dL_law_1651 ?_
  refine r_aloadR0 dL_law_1652 ?_
  refine r_iload4 dL_law_1653 ?_
  refine n_iconst dL_law_1655 (by decide) (fun r1655 e1655 => ?_)
  refine n_iadd dL_law_1656 (by omega) (fun r1656 e1656 => ?_)
  refine k_iald (k := i + 2) (v := .int (xs (i + 2))) hT_z (by omega) (by omega) (by omega) rfl dL_law_1657 ?_
  refine r_aloadR3 dL_law_1658 ?_
  refine q_callW (As := [.ref X, .int (xs (i + 1)), .int (xs (i + 2)), .ref (X + 260)]) (rest := []) zw_reads dL_law_1659 rfl rfl (by decide) (by first | exact Nat.le_of_ble_eq_true rfl | omega | (dsimp only; omega)) (by first | exact Nat.le_of_ble_eq_true rfl | omega | (dsimp only; omega)) (by first | exact Nat.le_of_ble_eq_true rfl | omega | (dsimp only; omega)) (by first | exact Nat.le_of_ble_eq_true rfl | omega | (dsimp only; omega)) (w_reads G hX (s_X11_reads G hx ht h_z.1.2.2.2.2.2.2.2.2.1 h_z.1.2.2.2.2.2.2.1  (fun hc0 n hn => Or.inl ⟨rfl, fun k1_z ek => ?_⟩) (fun hc0 hc1 n hn => Or.inr (Or.inl ⟨rfl, fun k1_z ek => ?_⟩)) (fun hc0 s l hc1 hc2 n hn => Or.inr (Or.inr (⟨rfl, fun k1_z ek => ?_⟩))) (fun hc0 s l hc1 hc2 rc f1_z ec hq => ⟨rc, w, f1_z, j, rfl, rfl, hO.1, hO.2, fun k1_z y1 ek ey => ?_⟩)))
  · have hI1 := lwI_s (n := n) h_z hn
    rw [show zsS (zM w f j) n = zM (zsS w n) f j from rfl]
    have hs := hI1.1.2.2.2.2.1
    have hO := hI1.1.2.2.2.1
    refine r_istore5 dL_law_1662 rfl ?_
    refine r_aloadR2 dL_law_1664 ?_
    refine r_aloadR0 dL_law_1665 ?_
    refine r_iload4 dL_law_1666 ?_
    refine n_iconst dL_law_1668 (by decide) (fun r1668 e1668 => ?_)
    refine n_iadd dL_law_1669 (by omega) (fun r1669 e1669 => ?_)
    refine k_iald (k := i + 1) (v := .int (xs (i + 1))) hT_z (by omega) (by omega) (by omega) rfl dL_law_1670 ?_
    refine r_aloadR0 dL_law_1671 ?_
    refine r_iload4 dL_law_1672 ?_
    refine n_iconst dL_law_1674 (by decide) (fun r1674 e1674 => ?_)
    refine n_iadd dL_law_1675 (by omega) (fun r1675 e1675 => ?_)
    refine k_iald (k := i + 2) (v := .int (xs (i + 2))) hT_z (by omega) (by omega) (by omega) rfl dL_law_1676 ?_
    refine q_callV2 zm_RL_236 dL_law_1677 (shM_k hs) (by decide) rfl (by decide) (by first | exact Nat.le_of_ble_eq_true rfl | omega | (dsimp only; omega)) (by first | exact Nat.le_of_ble_eq_true rfl | omega | (dsimp only; omega)) (by first | exact Nat.le_of_ble_eq_true rfl | omega | (dsimp only; omega)) (by first | exact Nat.le_of_ble_eq_true rfl | omega | (dsimp only; omega)) (s_X12_reads G hs hI1.2.1 hw hI1.2.2.2.2.1 (by have h9 := hI1.2.2.2.2.2.1; omega) hI1.2.2.1 (fun hy0 r6 f2_z j2 o6 t6 => ?_) (fun hy0 hy1 r6 f2_z j2 o6 t6 => ?_) (fun hy0 s9 l9 hy1 hy2 r6 f2_z j2 o6 t6 => ?_) (fun hy0 s9 l9 hy1 hy2 r6 f2_z j2 e6_z o6 t6 => ?_))
    · have hI2 := lwI_mq hI1 o6
      refine r_istore6 dL_law_1680 rfl ?_
      refine r_aloadR2 dL_law_1682 ?_
      refine q_callV0 zm_RL_151 dL_law_1683 (shM_k hs) (by decide) rfl (by first | exact Nat.le_of_ble_eq_true rfl | omega | (dsimp only; omega)) (by first | exact Nat.le_of_ble_eq_true rfl | omega | (dsimp only; omega)) (by first | exact Nat.le_of_ble_eq_true rfl | omega | (dsimp only; omega)) (by first | exact Nat.le_of_ble_eq_true rfl | omega | (dsimp only; omega)) (by first | exact Nat.le_of_ble_eq_true rfl | omega | (dsimp only; omega)) (s_X12_thrown G hs (fun r7 e7_z => ?_))
      have e7i : r7.toInt = (f2_z (X + 239) 4).toInt := by rw [e7_z]
      refine r_iload5 dL_law_1686 ?_
      refine t_iceq (t := 1693) dL_law_1688 (by decide) (fun h1688 => ?_) (fun h1688 => False.elim (by omega))
      refine r_iload5 dL_law_1693 ?_
      refine t_ifne (t := 1710) dL_law_1695 (by decide) (fun h1695 => ?_) (fun h1695 => False.elim (by omega))
      refine r_goto (t := 2729) dL_law_1710 (by decide) ?_
      refine kk _ _ _ _ _ _ _ ?_ ?_ (lwI_m hI2 (by omega))
      · first | omega | (dsimp only; omega)
      · first | omega | (dsimp only; omega)
    · exact False.elim (by first | omega | (rw [hc1] at hy1; cases hy1; done) | exact hc1 hy1 | exact hy1 hc1 | (cases Option.some.inj (hc1.symm.trans hy1); first | exact hc2 hy2 | exact hy2 hc2))
    · exact False.elim (by first | omega | (rw [hc1] at hy1; cases hy1; done) | exact hc1 hy1 | exact hy1 hc1 | (cases Option.some.inj (hc1.symm.trans hy1); first | exact hc2 hy2 | exact hy2 hc2))
    · exact False.elim (by first | omega | (rw [hc1] at hy1; cases hy1; done) | exact hc1 hy1 | exact hy1 hc1 | (cases Option.some.inj (hc1.symm.trans hy1); first | exact hc2 hy2 | exact hy2 hc2))
  · have hI1 := lwI_s (n := n) h_z hn
    rw [show zsS (zM w f j) n = zM (zsS w n) f j from rfl]
    have hs := hI1.1.2.2.2.2.1
    have hO := hI1.1.2.2.2.1
    refine r_istore5 dL_law_1662 rfl ?_
    refine r_aloadR2 dL_law_1664 ?_
    refine r_aloadR0 dL_law_1665 ?_
    refine r_iload4 dL_law_1666 ?_
    refine n_iconst dL_law_1668 (by decide) (fun r1668 e1668 => ?_)
    refine n_iadd dL_law_1669 (by omega) (fun r1669 e1669 => ?_)
    refine k_iald (k := i + 1) (v := .int (xs (i + 1))) hT_z (by omega) (by omega) (by omega) rfl dL_law_1670 ?_
    refine r_aloadR0 dL_law_1671 ?_
    refine r_iload4 dL_law_1672 ?_
    refine n_iconst dL_law_1674 (by decide) (fun r1674 e1674 => ?_)
    refine n_iadd dL_law_1675 (by omega) (fun r1675 e1675 => ?_)
    refine k_iald (k := i + 2) (v := .int (xs (i + 2))) hT_z (by omega) (by omega) (by omega) rfl dL_law_1676 ?_
    refine q_callV2 zm_RL_236 dL_law_1677 (shM_k hs) (by decide) rfl (by decide) (by first | exact Nat.le_of_ble_eq_true rfl | omega | (dsimp only; omega)) (by first | exact Nat.le_of_ble_eq_true rfl | omega | (dsimp only; omega)) (by first | exact Nat.le_of_ble_eq_true rfl | omega | (dsimp only; omega)) (by first | exact Nat.le_of_ble_eq_true rfl | omega | (dsimp only; omega)) (s_X12_reads G hs hI1.2.1 hw hI1.2.2.2.2.1 (by have h9 := hI1.2.2.2.2.2.1; omega) hI1.2.2.1 (fun hy0 r6 f2_z j2 o6 t6 => ?_) (fun hy0 hy1 r6 f2_z j2 o6 t6 => ?_) (fun hy0 s9 l9 hy1 hy2 r6 f2_z j2 o6 t6 => ?_) (fun hy0 s9 l9 hy1 hy2 r6 f2_z j2 e6_z o6 t6 => ?_))
    · exact False.elim (by first | omega | (rw [hc1] at hy1; cases hy1; done) | exact hc1 hy1 | exact hy1 hc1 | (cases Option.some.inj (hc1.symm.trans hy1); first | exact hc2 hy2 | exact hy2 hc2))
    · have hI2 := lwI_mq hI1 o6
      refine r_istore6 dL_law_1680 rfl ?_
      refine r_aloadR2 dL_law_1682 ?_
      refine q_callV0 zm_RL_151 dL_law_1683 (shM_k hs) (by decide) rfl (by first | exact Nat.le_of_ble_eq_true rfl | omega | (dsimp only; omega)) (by first | exact Nat.le_of_ble_eq_true rfl | omega | (dsimp only; omega)) (by first | exact Nat.le_of_ble_eq_true rfl | omega | (dsimp only; omega)) (by first | exact Nat.le_of_ble_eq_true rfl | omega | (dsimp only; omega)) (by first | exact Nat.le_of_ble_eq_true rfl | omega | (dsimp only; omega)) (s_X12_thrown G hs (fun r7 e7_z => ?_))
      have e7i : r7.toInt = (f2_z (X + 239) 4).toInt := by rw [e7_z]
      refine r_iload5 dL_law_1686 ?_
      refine t_iceq (t := 1693) dL_law_1688 (by decide) (fun h1688 => ?_) (fun h1688 => False.elim (by omega))
      refine r_iload5 dL_law_1693 ?_
      refine t_ifne (t := 1710) dL_law_1695 (by decide) (fun h1695 => ?_) (fun h1695 => False.elim (by omega))
      refine r_goto (t := 2729) dL_law_1710 (by decide) ?_
      refine kk _ _ _ _ _ _ _ ?_ ?_ (lwI_m hI2 (by omega))
      · first | omega | (dsimp only; omega)
      · first | omega | (dsimp only; omega)
    · exact False.elim (by first | omega | (rw [hc1] at hy1; cases hy1; done) | exact hc1 hy1 | exact hy1 hc1 | (cases Option.some.inj (hc1.symm.trans hy1); first | exact hc2 hy2 | exact hy2 hc2))
    · exact False.elim (by first | omega | (rw [hc1] at hy1; cases hy1; done) | exact hc1 hy1 | exact hy1 hc1 | (cases Option.some.inj (hc1.symm.trans hy1); first | exact hc2 hy2 | exact hy2 hc2))
  · have hI1 := lwI_s (n := n) h_z hn
    rw [show zsS (zM w f j) n = zM (zsS w n) f j from rfl]
    have hs := hI1.1.2.2.2.2.1
    have hO := hI1.1.2.2.2.1
    refine r_istore5 dL_law_1662 rfl ?_
    refine r_aloadR2 dL_law_1664 ?_
    refine r_aloadR0 dL_law_1665 ?_
    refine r_iload4 dL_law_1666 ?_
    refine n_iconst dL_law_1668 (by decide) (fun r1668 e1668 => ?_)
    refine n_iadd dL_law_1669 (by omega) (fun r1669 e1669 => ?_)
    refine k_iald (k := i + 1) (v := .int (xs (i + 1))) hT_z (by omega) (by omega) (by omega) rfl dL_law_1670 ?_
    refine r_aloadR0 dL_law_1671 ?_
    refine r_iload4 dL_law_1672 ?_
    refine n_iconst dL_law_1674 (by decide) (fun r1674 e1674 => ?_)
    refine n_iadd dL_law_1675 (by omega) (fun r1675 e1675 => ?_)
    refine k_iald (k := i + 2) (v := .int (xs (i + 2))) hT_z (by omega) (by omega) (by omega) rfl dL_law_1676 ?_
    refine q_callV2 zm_RL_236 dL_law_1677 (shM_k hs) (by decide) rfl (by decide) (by first | exact Nat.le_of_ble_eq_true rfl | omega | (dsimp only; omega)) (by first | exact Nat.le_of_ble_eq_true rfl | omega | (dsimp only; omega)) (by first | exact Nat.le_of_ble_eq_true rfl | omega | (dsimp only; omega)) (by first | exact Nat.le_of_ble_eq_true rfl | omega | (dsimp only; omega)) (s_X12_reads G hs hI1.2.1 hw hI1.2.2.2.2.1 (by have h9 := hI1.2.2.2.2.2.1; omega) hI1.2.2.1 (fun hy0 r6 f2_z j2 o6 t6 => ?_) (fun hy0 hy1 r6 f2_z j2 o6 t6 => ?_) (fun hy0 s9 l9 hy1 hy2 r6 f2_z j2 o6 t6 => ?_) (fun hy0 s9 l9 hy1 hy2 r6 f2_z j2 e6_z o6 t6 => ?_))
    · exact False.elim (by first | omega | (rw [hc1] at hy1; cases hy1; done) | exact hc1 hy1 | exact hy1 hc1 | (cases Option.some.inj (hc1.symm.trans hy1); first | exact hc2 hy2 | exact hy2 hc2))
    · exact False.elim (by first | omega | (rw [hc1] at hy1; cases hy1; done) | exact hc1 hy1 | exact hy1 hc1 | (cases Option.some.inj (hc1.symm.trans hy1); first | exact hc2 hy2 | exact hy2 hc2))
    · cases Option.some.inj (hc1.symm.trans hy1)
      have hI2 := lwI_mq hI1 o6
      refine r_istore6 dL_law_1680 rfl ?_
      refine r_aloadR2 dL_law_1682 ?_
      refine q_callV0 zm_RL_151 dL_law_1683 (shM_k hs) (by decide) rfl (by first | exact Nat.le_of_ble_eq_true rfl | omega | (dsimp only; omega)) (by first | exact Nat.le_of_ble_eq_true rfl | omega | (dsimp only; omega)) (by first | exact Nat.le_of_ble_eq_true rfl | omega | (dsimp only; omega)) (by first | exact Nat.le_of_ble_eq_true rfl | omega | (dsimp only; omega)) (by first | exact Nat.le_of_ble_eq_true rfl | omega | (dsimp only; omega)) (s_X12_thrown G hs (fun r7 e7_z => ?_))
      have e7i : r7.toInt = (f2_z (X + 239) 4).toInt := by rw [e7_z]
      refine r_iload5 dL_law_1686 ?_
      refine t_iceq (t := 1693) dL_law_1688 (by decide) (fun h1688 => ?_) (fun h1688 => False.elim (by omega))
      refine r_iload5 dL_law_1693 ?_
      refine t_ifne (t := 1710) dL_law_1695 (by decide) (fun h1695 => ?_) (fun h1695 => False.elim (by omega))
      refine r_goto (t := 2729) dL_law_1710 (by decide) ?_
      refine kk _ _ _ _ _ _ _ ?_ ?_ (lwI_m hI2 (by omega))
      · first | omega | (dsimp only; omega)
      · first | omega | (dsimp only; omega)
    · exact False.elim (by first | omega | (rw [hc1] at hy1; cases hy1; done) | exact hc1 hy1 | exact hy1 hc1 | (cases Option.some.inj (hc1.symm.trans hy1); first | exact hc2 hy2 | exact hy2 hc2))
  · have hI1 := lwI_o (y := y1) (lwI_cq h_z hq)
    have hs := hI1.1.2.2.2.2.1
    have hj1 : zu j (X + 260) 0 y1 (X + 260) 0 = y1 := zu_at
    obtain ⟨j1, hj⟩ : ∃ j9, j9 = zu j (X + 260) 0 y1 := ⟨_, rfl⟩
    rw [← hj] at hI1 hj1 ⊢
    refine r_istore5 dL_law_1662 rfl ?_
    refine r_aloadR2 dL_law_1664 ?_
    refine r_aloadR0 dL_law_1665 ?_
    refine r_iload4 dL_law_1666 ?_
    refine n_iconst dL_law_1668 (by decide) (fun r1668 e1668 => ?_)
    refine n_iadd dL_law_1669 (by omega) (fun r1669 e1669 => ?_)
    refine k_iald (k := i + 1) (v := .int (xs (i + 1))) hT_z (by omega) (by omega) (by omega) rfl dL_law_1670 ?_
    refine r_aloadR0 dL_law_1671 ?_
    refine r_iload4 dL_law_1672 ?_
    refine n_iconst dL_law_1674 (by decide) (fun r1674 e1674 => ?_)
    refine n_iadd dL_law_1675 (by omega) (fun r1675 e1675 => ?_)
    refine k_iald (k := i + 2) (v := .int (xs (i + 2))) hT_z (by omega) (by omega) (by omega) rfl dL_law_1676 ?_
    refine q_callV2 zm_RL_236 dL_law_1677 (shM_k hs) (by decide) rfl (by decide) (by first | exact Nat.le_of_ble_eq_true rfl | omega | (dsimp only; omega)) (by first | exact Nat.le_of_ble_eq_true rfl | omega | (dsimp only; omega)) (by first | exact Nat.le_of_ble_eq_true rfl | omega | (dsimp only; omega)) (by first | exact Nat.le_of_ble_eq_true rfl | omega | (dsimp only; omega)) (s_X12_reads G hs hI1.2.1 hw hI1.2.2.2.2.1 (by have h9 := hI1.2.2.2.2.2.1; omega) hI1.2.2.1 (fun hy0 r6 f2_z j2 o6 t6 => ?_) (fun hy0 hy1 r6 f2_z j2 o6 t6 => ?_) (fun hy0 s9 l9 hy1 hy2 r6 f2_z j2 o6 t6 => ?_) (fun hy0 s9 l9 hy1 hy2 r6 f2_z j2 e6_z o6 t6 => ?_))
    · exact False.elim (by first | omega | (rw [hc1] at hy1; cases hy1; done) | exact hc1 hy1 | exact hy1 hc1 | (cases Option.some.inj (hc1.symm.trans hy1); first | exact hc2 hy2 | exact hy2 hc2))
    · exact False.elim (by first | omega | (rw [hc1] at hy1; cases hy1; done) | exact hc1 hy1 | exact hy1 hc1 | (cases Option.some.inj (hc1.symm.trans hy1); first | exact hc2 hy2 | exact hy2 hc2))
    · exact False.elim (by first | omega | (rw [hc1] at hy1; cases hy1; done) | exact hc1 hy1 | exact hy1 hc1 | (cases Option.some.inj (hc1.symm.trans hy1); first | exact hc2 hy2 | exact hy2 hc2))
    · cases Option.some.inj (hc1.symm.trans hy1)
      have hI2 := lwI_mq hI1 o6
      have hl2 : (j2 (X + 260) 0).toInt = y1.toInt := by rw [o6.2.1 (X + 260) (by omega), hj1]
      have he9 : rc.toInt = r6.toInt := by first | (rw [ec, e6_z]; exact fI_e (pd := fun L _ => @decide (lookC T.2.2.1.1 L l) (Classical.propDecidable _)) (k := 6)) | (rw [ec, e6_z]; exact fI_e (pd := fun L _ => @decide (lookC T.2.2.1.1 L l9) (Classical.propDecidable _)) (k := 6)) | omega
      refine r_istore6 dL_law_1680 rfl ?_
      refine r_aloadR2 dL_law_1682 ?_
      refine q_callV0 zm_RL_151 dL_law_1683 (shM_k hs) (by decide) rfl (by first | exact Nat.le_of_ble_eq_true rfl | omega | (dsimp only; omega)) (by first | exact Nat.le_of_ble_eq_true rfl | omega | (dsimp only; omega)) (by first | exact Nat.le_of_ble_eq_true rfl | omega | (dsimp only; omega)) (by first | exact Nat.le_of_ble_eq_true rfl | omega | (dsimp only; omega)) (by first | exact Nat.le_of_ble_eq_true rfl | omega | (dsimp only; omega)) (s_X12_thrown G hs (fun r7 e7_z => ?_))
      have e7i : r7.toInt = (f2_z (X + 239) 4).toInt := by rw [e7_z]
      refine r_iload5 dL_law_1686 ?_
      refine t_iceq (t := 1693) dL_law_1688 (by decide) (fun h1688 => ?_) (fun h1688 => False.elim (by omega))
      refine r_iload5 dL_law_1693 ?_
      refine t_ifne (t := 1710) dL_law_1695 (by decide) (fun h1695 => False.elim (by omega)) (fun h1695 => ?_)
      refine r_aloadR3 dL_law_1698 ?_
      refine n_iconst dL_law_1699 (by decide) (fun r1699 e1699 => ?_)
      refine m_lald (k := 0) (x := (j2 (X + 260) 0)) dL_law_1700 hO.1 hO.2 (by omega) (by omega) (rfl) ?_
      refine r_iload6 dL_law_1701 ?_
      refine n_i2l dL_law_1703 (fun r1703 e1703 => ?_)
      refine n_lcmp dL_law_1704 (fun r1704 e1704 => ?_)
      unfold zcmp at e1704
      refine t_ifeq (t := 1710) dL_law_1705 (by decide) (fun h1705 => ?_) (fun h1705 => False.elim (by omega))
      refine r_goto (t := 2729) dL_law_1710 (by decide) ?_
      refine kk _ _ _ _ _ _ _ ?_ ?_ (lwI_m hI2 (by omega))
      · first | omega | (dsimp only; omega)
      · first | omega | (dsimp only; omega)
set_option maxHeartbeats 4000000 in
set_option maxRecDepth 100000 in
theorem lc_30 {g : zGT} {Rm : Room} {QQ : List Frame → Array Value → State → State → Prop} {hh : List (Nat × Nat × Nat × Nat)} {nm : String} {w : zW} {f : Nat → Nat → Int32} {j : Nat → Nat → Int64} {s X L i N : Nat} {xs : Nat → Int32} {T : zTb} {ty : Nat → zTy} {im : Nat → Option zTb} {p : Nat} {B : Nat → Nat} {th pl : Int} {iv : Int32} {u5 u6 u7 : Option Value} {b : Nat × Nat} (G : zGok g) (hfr : 2048 ≤ Rm.frames) (hlo : 84000 ≤ Rm.locals) (hb1 : b.1 + 951 ≤ Rm.cells) (hb2 : b.2 + 1006 ≤ Rm.slots) (hT_z : ∀ U, g.2.2.2 U → va_T .int s L (fun k => .int (xs k)) (zA g.2.2.1) U U.heap) (hi_z : iv.toInt = (i : Nat)) (hiL : i + 6 ≤ L) (hL : L ≤ 3072) (h_z : lwI w f j X T ty im p B th pl N) (hN_z : N < 1900000000)  (kk : ∀ (u5 u6 u7 : Option Value) w2 f2_z j2 b2, b2.1 ≤ b.1 + 951 → b2.2 ≤ b.2 + 1006 → lwI w2 f2_z j2 X T ty im p B th pl (N + 4) → zR (zVg g Rm QQ hh nm 8 (some .boolean)) cL_law RL 2729 [some (.ref s), some (.ref X), some (.ref (X + 239)), some (.ref (X + 260)), some (.int iv), u5, u6, u7] [] (zM w2 f2_z j2) b2) : zR (zVg g Rm QQ hh nm 8 (some .boolean)) cL_law RL 1802 [some (.ref s), some (.ref X), some (.ref (X + 239)), some (.ref (X + 260)), some (.int iv), u5, u6, u7] [] (zM w f j) b := by
  have hx := h_z.1.1
  have hX := shX_k hx
  have hO := h_z.1.2.2.2.1
  have hs := h_z.1.2.2.2.2.1
  have ht := h_z.1.2.2.2.2.2.1
  have hw := tb_wf ht
  have hS2 := h_z.1.2.1
  have hz := h_z.1.2.2.1
  refine r_aloadR1 dL_law_1802 ?_
  refine r_aloadR0 dL_law_1803 ?_
  refine r_iload4 dL_law_1804 ?_
  refine n_iconst dL_law_1806 (by decide) (fun r1806 e1806 => ?_)
  refine n_iadd dL_law_1807 (by omega) (fun r1807 e1807 => ?_)
  refine k_iald (k := i + 1) (v := .int (xs (i + 1))) hT_z (by omega) (by omega) (by omega) rfl dL_law_1808 ?_
  refine r_aloadR3 dL_law_1809 ?_
  refine q_callW (As := [.ref X, .int (xs (i + 1)), .ref (X + 260)]) (rest := []) zw_stack dL_law_1810 rfl rfl (by decide) (by first | exact Nat.le_of_ble_eq_true rfl | omega | (dsimp only; omega)) (by first | exact Nat.le_of_ble_eq_true rfl | omega | (dsimp only; omega)) (by first | exact Nat.le_of_ble_eq_true rfl | omega | (dsimp only; omega)) (by first | exact Nat.le_of_ble_eq_true rfl | omega | (dsimp only; omega)) (w_stack G hX (s_X11_stack G hx ht h_z.1.2.2.2.2.2.2.2.2.1 h_z.1.2.2.2.2.2.2.2.1  (fun hc0 n hn => Or.inl ⟨rfl, fun k1_z ek => ?_⟩) (fun hc0 hc1 n hn => Or.inr (Or.inl ⟨rfl, fun k1_z ek => ?_⟩)) (fun hc0 s l hc1 hc2 n hn => Or.inr (Or.inr (⟨rfl, fun k1_z ek => ?_⟩))) (fun hc0 s l hc1 hc2 rc f1_z ec hq => ⟨rc, w, f1_z, j, rfl, rfl, hO.1, hO.2, fun k1_z y1 ek ey => ?_⟩)))
  · have hI1 := lwI_s (n := n) h_z hn
    rw [show zsS (zM w f j) n = zM (zsS w n) f j from rfl]
    have hs := hI1.1.2.2.2.2.1
    have hO := hI1.1.2.2.2.1
    refine r_istore5 dL_law_1813 rfl ?_
    refine r_aloadR2 dL_law_1815 ?_
    refine r_aloadR0 dL_law_1816 ?_
    refine r_iload4 dL_law_1817 ?_
    refine n_iconst dL_law_1819 (by decide) (fun r1819 e1819 => ?_)
    refine n_iadd dL_law_1820 (by omega) (fun r1820 e1820 => ?_)
    refine k_iald (k := i + 1) (v := .int (xs (i + 1))) hT_z (by omega) (by omega) (by omega) rfl dL_law_1821 ?_
    refine q_callV1 zm_RL_250 dL_law_1822 (shM_k hs) (by decide) rfl (by decide) (by first | exact Nat.le_of_ble_eq_true rfl | omega | (dsimp only; omega)) (by first | exact Nat.le_of_ble_eq_true rfl | omega | (dsimp only; omega)) (by first | exact Nat.le_of_ble_eq_true rfl | omega | (dsimp only; omega)) (by first | exact Nat.le_of_ble_eq_true rfl | omega | (dsimp only; omega)) (s_X12_stack G hs hI1.2.1 hw hI1.2.2.2.2.1 (by have h9 := hI1.2.2.2.2.2.1; omega) hI1.2.2.1 (fun hy0 r6 f2_z j2 o6 t6 => ?_) (fun hy0 hy1 r6 f2_z j2 o6 t6 => ?_) (fun hy0 s9 l9 hy1 hy2 r6 f2_z j2 o6 t6 => ?_) (fun hy0 s9 l9 hy1 hy2 r6 f2_z j2 e6_z o6 t6 => ?_))
    · have hI2 := lwI_mq hI1 o6
      refine r_istore6 dL_law_1825 rfl ?_
      refine r_aloadR2 dL_law_1827 ?_
      refine q_callV0 zm_RL_151 dL_law_1828 (shM_k hs) (by decide) rfl (by first | exact Nat.le_of_ble_eq_true rfl | omega | (dsimp only; omega)) (by first | exact Nat.le_of_ble_eq_true rfl | omega | (dsimp only; omega)) (by first | exact Nat.le_of_ble_eq_true rfl | omega | (dsimp only; omega)) (by first | exact Nat.le_of_ble_eq_true rfl | omega | (dsimp only; omega)) (by first | exact Nat.le_of_ble_eq_true rfl | omega | (dsimp only; omega)) (s_X12_thrown G hs (fun r7 e7_z => ?_))
      have e7i : r7.toInt = (f2_z (X + 239) 4).toInt := by rw [e7_z]
      refine r_iload5 dL_law_1831 ?_
      refine t_iceq (t := 1838) dL_law_1833 (by decide) (fun h1833 => ?_) (fun h1833 => False.elim (by omega))
      refine r_iload5 dL_law_1838 ?_
      refine t_ifne (t := 1855) dL_law_1840 (by decide) (fun h1840 => ?_) (fun h1840 => False.elim (by omega))
      refine r_goto (t := 2729) dL_law_1855 (by decide) ?_
      refine kk _ _ _ _ _ _ _ ?_ ?_ (lwI_m hI2 (by omega))
      · first | omega | (dsimp only; omega)
      · first | omega | (dsimp only; omega)
    · exact False.elim (by first | omega | (rw [hc1] at hy1; cases hy1; done) | exact hc1 hy1 | exact hy1 hc1 | (cases Option.some.inj (hc1.symm.trans hy1); first | exact hc2 hy2 | exact hy2 hc2))
    · exact False.elim (by first | omega | (rw [hc1] at hy1; cases hy1; done) | exact hc1 hy1 | exact hy1 hc1 | (cases Option.some.inj (hc1.symm.trans hy1); first | exact hc2 hy2 | exact hy2 hc2))
    · exact False.elim (by first | omega | (rw [hc1] at hy1; cases hy1; done) | exact hc1 hy1 | exact hy1 hc1 | (cases Option.some.inj (hc1.symm.trans hy1); first | exact hc2 hy2 | exact hy2 hc2))
  · have hI1 := lwI_s (n := n) h_z hn
    rw [show zsS (zM w f j) n = zM (zsS w n) f j from rfl]
    have hs := hI1.1.2.2.2.2.1
    have hO := hI1.1.2.2.2.1
    refine r_istore5 dL_law_1813 rfl ?_
    refine r_aloadR2 dL_law_1815 ?_
    refine r_aloadR0 dL_law_1816 ?_
    refine r_iload4 dL_law_1817 ?_
    refine n_iconst dL_law_1819 (by decide) (fun r1819 e1819 => ?_)
    refine n_iadd dL_law_1820 (by omega) (fun r1820 e1820 => ?_)
    refine k_iald (k := i + 1) (v := .int (xs (i + 1))) hT_z (by omega) (by omega) (by omega) rfl dL_law_1821 ?_
    refine q_callV1 zm_RL_250 dL_law_1822 (shM_k hs) (by decide) rfl (by decide) (by first | exact Nat.le_of_ble_eq_true rfl | omega | (dsimp only; omega)) (by first | exact Nat.le_of_ble_eq_true rfl | omega | (dsimp only; omega)) (by first | exact Nat.le_of_ble_eq_true rfl | omega | (dsimp only; omega)) (by first | exact Nat.le_of_ble_eq_true rfl | omega | (dsimp only; omega)) (s_X12_stack G hs hI1.2.1 hw hI1.2.2.2.2.1 (by have h9 := hI1.2.2.2.2.2.1; omega) hI1.2.2.1 (fun hy0 r6 f2_z j2 o6 t6 => ?_) (fun hy0 hy1 r6 f2_z j2 o6 t6 => ?_) (fun hy0 s9 l9 hy1 hy2 r6 f2_z j2 o6 t6 => ?_) (fun hy0 s9 l9 hy1 hy2 r6 f2_z j2 e6_z o6 t6 => ?_))
    · exact False.elim (by first | omega | (rw [hc1] at hy1; cases hy1; done) | exact hc1 hy1 | exact hy1 hc1 | (cases Option.some.inj (hc1.symm.trans hy1); first | exact hc2 hy2 | exact hy2 hc2))
    · have hI2 := lwI_mq hI1 o6
      refine r_istore6 dL_law_1825 rfl ?_
      refine r_aloadR2 dL_law_1827 ?_
      refine q_callV0 zm_RL_151 dL_law_1828 (shM_k hs) (by decide) rfl (by first | exact Nat.le_of_ble_eq_true rfl | omega | (dsimp only; omega)) (by first | exact Nat.le_of_ble_eq_true rfl | omega | (dsimp only; omega)) (by first | exact Nat.le_of_ble_eq_true rfl | omega | (dsimp only; omega)) (by first | exact Nat.le_of_ble_eq_true rfl | omega | (dsimp only; omega)) (by first | exact Nat.le_of_ble_eq_true rfl | omega | (dsimp only; omega)) (s_X12_thrown G hs (fun r7 e7_z => ?_))
      have e7i : r7.toInt = (f2_z (X + 239) 4).toInt := by rw [e7_z]
      refine r_iload5 dL_law_1831 ?_
      refine t_iceq (t := 1838) dL_law_1833 (by decide) (fun h1833 => ?_) (fun h1833 => False.elim (by omega))
      refine r_iload5 dL_law_1838 ?_
      refine t_ifne (t := 1855) dL_law_1840 (by decide) (fun h1840 => ?_) (fun h1840 => False.elim (by omega))
      refine r_goto (t := 2729) dL_law_1855 (by decide) ?_
      refine kk _ _ _ _ _ _ _ ?_ ?_ (lwI_m hI2 (by omega))
      · first | omega | (dsimp only; omega)
      · first | omega | (dsimp only; omega)
    · exact False.elim (by first | omega | (rw [hc1] at hy1; cases hy1; done) | exact hc1 hy1 | exact hy1 hc1 | (cases Option.some.inj (hc1.symm.trans hy1); first | exact hc2 hy2 | exact hy2 hc2))
    · exact False.elim (by first | omega | (rw [hc1] at hy1; cases hy1; done) | exact hc1 hy1 | exact hy1 hc1 | (cases Option.some.inj (hc1.symm.trans hy1); first | exact hc2 hy2 | exact hy2 hc2))
  · have hI1 := lwI_s (n := n) h_z hn
    rw [show zsS (zM w f j) n = zM (zsS w n) f j from rfl]
    have hs := hI1.1.2.2.2.2.1
    have hO := hI1.1.2.2.2.1
    refine r_istore5 dL_law_1813 rfl ?_
    refine r_aloadR2 dL_law_1815 ?_
    refine r_aloadR0 dL_law_1816 ?_
    refine r_iload4 dL_law_1817 ?_
    refine n_iconst dL_law_1819 (by decide) (fun r1819 e1819 => ?_)
    refine n_iadd dL_law_1820 (by omega) (fun r1820 e1820 => ?_)
    refine k_iald (k := i + 1) (v := .int (xs (i + 1))) hT_z (by omega) (by omega) (by omega) rfl dL_law_1821 ?_
    refine q_callV1 zm_RL_250 dL_law_1822 (shM_k hs) (by decide) rfl (by decide) (by first | exact Nat.le_of_ble_eq_true rfl | omega | (dsimp only; omega)) (by first | exact Nat.le_of_ble_eq_true rfl | omega | (dsimp only; omega)) (by first | exact Nat.le_of_ble_eq_true rfl | omega | (dsimp only; omega)) (by first | exact Nat.le_of_ble_eq_true rfl | omega | (dsimp only; omega)) (s_X12_stack G hs hI1.2.1 hw hI1.2.2.2.2.1 (by have h9 := hI1.2.2.2.2.2.1; omega) hI1.2.2.1 (fun hy0 r6 f2_z j2 o6 t6 => ?_) (fun hy0 hy1 r6 f2_z j2 o6 t6 => ?_) (fun hy0 s9 l9 hy1 hy2 r6 f2_z j2 o6 t6 => ?_) (fun hy0 s9 l9 hy1 hy2 r6 f2_z j2 e6_z o6 t6 => ?_))
    · exact False.elim (by first | omega | (rw [hc1] at hy1; cases hy1; done) | exact hc1 hy1 | exact hy1 hc1 | (cases Option.some.inj (hc1.symm.trans hy1); first | exact hc2 hy2 | exact hy2 hc2))
    · exact False.elim (by first | omega | (rw [hc1] at hy1; cases hy1; done) | exact hc1 hy1 | exact hy1 hc1 | (cases Option.some.inj (hc1.symm.trans hy1); first | exact hc2 hy2 | exact hy2 hc2))
    · cases Option.some.inj (hc1.symm.trans hy1)
      have hI2 := lwI_mq hI1 o6
      refine r_istore6 dL_law_1825 rfl ?_
      refine r_aloadR2 dL_law_1827 ?_
      refine q_callV0 zm_RL_151 dL_law_1828 (shM_k hs) (by decide) rfl (by first | exact Nat.le_of_ble_eq_true rfl | omega | (dsimp only; omega)) (by first | exact Nat.le_of_ble_eq_true rfl | omega | (dsimp only; omega)) (by first | exact Nat.le_of_ble_eq_true rfl | omega | (dsimp only; omega)) (by first | exact Nat.le_of_ble_eq_true rfl | omega | (dsimp only; omega)) (by first | exact Nat.le_of_ble_eq_true rfl | omega | (dsimp only; omega)) (s_X12_thrown G hs (fun r7 e7_z => ?_))
      have e7i : r7.toInt = (f2_z (X + 239) 4).toInt := by rw [e7_z]
      refine r_iload5 dL_law_1831 ?_
      refine t_iceq (t := 1838) dL_law_1833 (by decide) (fun h1833 => ?_) (fun h1833 => False.elim (by omega))
      refine r_iload5 dL_law_1838 ?_
      refine t_ifne (t := 1855) dL_law_1840 (by decide) (fun h1840 => ?_) (fun h1840 => False.elim (by omega))
      refine r_goto (t := 2729) dL_law_1855 (by decide) ?_
      refine kk _ _ _ _ _ _ _ ?_ ?_ (lwI_m hI2 (by omega))
      · first | omega | (dsimp only; omega)
      · first | omega | (dsimp only; omega)
    · exact False.elim (by first | omega | (rw [hc1] at hy1; cases hy1; done) | exact hc1 hy1 | exact hy1 hc1 | (cases Option.some.inj (hc1.symm.trans hy1); first | exact hc2 hy2 | exact hy2 hc2))
  · have hI1 := lwI_o (y := y1) (lwI_cq h_z hq)
    have hs := hI1.1.2.2.2.2.1
    have hj1 : zu j (X + 260) 0 y1 (X + 260) 0 = y1 := zu_at
    obtain ⟨j1, hj⟩ : ∃ j9, j9 = zu j (X + 260) 0 y1 := ⟨_, rfl⟩
    rw [← hj] at hI1 hj1 ⊢
    refine r_istore5 dL_law_1813 rfl ?_
    refine r_aloadR2 dL_law_1815 ?_
    refine r_aloadR0 dL_law_1816 ?_
    refine r_iload4 dL_law_1817 ?_
    refine n_iconst dL_law_1819 (by decide) (fun r1819 e1819 => ?_)
    refine n_iadd dL_law_1820 (by omega) (fun r1820 e1820 => ?_)
    refine k_iald (k := i + 1) (v := .int (xs (i + 1))) hT_z (by omega) (by omega) (by omega) rfl dL_law_1821 ?_
    refine q_callV1 zm_RL_250 dL_law_1822 (shM_k hs) (by decide) rfl (by decide) (by first | exact Nat.le_of_ble_eq_true rfl | omega | (dsimp only; omega)) (by first | exact Nat.le_of_ble_eq_true rfl | omega | (dsimp only; omega)) (by first | exact Nat.le_of_ble_eq_true rfl | omega | (dsimp only; omega)) (by first | exact Nat.le_of_ble_eq_true rfl | omega | (dsimp only; omega)) (s_X12_stack G hs hI1.2.1 hw hI1.2.2.2.2.1 (by have h9 := hI1.2.2.2.2.2.1; omega) hI1.2.2.1 (fun hy0 r6 f2_z j2 o6 t6 => ?_) (fun hy0 hy1 r6 f2_z j2 o6 t6 => ?_) (fun hy0 s9 l9 hy1 hy2 r6 f2_z j2 o6 t6 => ?_) (fun hy0 s9 l9 hy1 hy2 r6 f2_z j2 e6_z o6 t6 => ?_))
    · exact False.elim (by first | omega | (rw [hc1] at hy1; cases hy1; done) | exact hc1 hy1 | exact hy1 hc1 | (cases Option.some.inj (hc1.symm.trans hy1); first | exact hc2 hy2 | exact hy2 hc2))
    · exact False.elim (by first | omega | (rw [hc1] at hy1; cases hy1; done) | exact hc1 hy1 | exact hy1 hc1 | (cases Option.some.inj (hc1.symm.trans hy1); first | exact hc2 hy2 | exact hy2 hc2))
    · exact False.elim (by first | omega | (rw [hc1] at hy1; cases hy1; done) | exact hc1 hy1 | exact hy1 hc1 | (cases Option.some.inj (hc1.symm.trans hy1); first | exact hc2 hy2 | exact hy2 hc2))
    · cases Option.some.inj (hc1.symm.trans hy1)
      have hI2 := lwI_mq hI1 o6
      have hl2 : (j2 (X + 260) 0).toInt = y1.toInt := by rw [o6.2.1 (X + 260) (by omega), hj1]
      have he9 : rc.toInt = r6.toInt := by first | (rw [ec, e6_z]; exact dI_e (pd := fun L _ => @decide (ordC L l) (Classical.propDecidable _)) (k := 6)) | (rw [ec, e6_z]; exact dI_e (pd := fun L _ => @decide (ordC L l9) (Classical.propDecidable _)) (k := 6)) | omega
      refine r_istore6 dL_law_1825 rfl ?_
      refine r_aloadR2 dL_law_1827 ?_
      refine q_callV0 zm_RL_151 dL_law_1828 (shM_k hs) (by decide) rfl (by first | exact Nat.le_of_ble_eq_true rfl | omega | (dsimp only; omega)) (by first | exact Nat.le_of_ble_eq_true rfl | omega | (dsimp only; omega)) (by first | exact Nat.le_of_ble_eq_true rfl | omega | (dsimp only; omega)) (by first | exact Nat.le_of_ble_eq_true rfl | omega | (dsimp only; omega)) (by first | exact Nat.le_of_ble_eq_true rfl | omega | (dsimp only; omega)) (s_X12_thrown G hs (fun r7 e7_z => ?_))
      have e7i : r7.toInt = (f2_z (X + 239) 4).toInt := by rw [e7_z]
      refine r_iload5 dL_law_1831 ?_
      refine t_iceq (t := 1838) dL_law_1833 (by decide) (fun h1833 => ?_) (fun h1833 => False.elim (by omega))
      refine r_iload5 dL_law_1838 ?_
      refine t_ifne (t := 1855) dL_law_1840 (by decide) (fun h1840 => False.elim (by omega)) (fun h1840 => ?_)
      refine r_aloadR3 dL_law_1843 ?_
      refine n_iconst dL_law_1844 (by decide) (fun r1844 e1844 => ?_)
      refine m_lald (k := 0) (x := (j2 (X + 260) 0)) dL_law_1845 hO.1 hO.2 (by omega) (by omega) (rfl) ?_
      refine r_iload6 dL_law_1846 ?_
      refine n_i2l dL_law_1848 (fun r1848 e1848 => ?_)
      refine n_lcmp dL_law_1849 (fun r1849 e1849 => ?_)
      unfold zcmp at e1849
      refine t_ifeq (t := 1855) dL_law_1850 (by decide) (fun h1850 => ?_) (fun h1850 => False.elim (by omega))
      refine r_goto (t := 2729) dL_law_1855 (by decide) ?_
      refine kk _ _ _ _ _ _ _ ?_ ?_ (lwI_m hI2 (by omega))
      · first | omega | (dsimp only; omega)
      · first | omega | (dsimp only; omega)
set_option maxHeartbeats 4000000 in
set_option maxRecDepth 100000 in
theorem lc_33 {g : zGT} {Rm : Room} {QQ : List Frame → Array Value → State → State → Prop} {hh : List (Nat × Nat × Nat × Nat)} {nm : String} {w : zW} {f : Nat → Nat → Int32} {j : Nat → Nat → Int64} {s X L i N : Nat} {xs : Nat → Int32} {T : zTb} {ty : Nat → zTy} {im : Nat → Option zTb} {p : Nat} {B : Nat → Nat} {th pl : Int} {iv : Int32} {u5 u6 u7 : Option Value} {b : Nat × Nat} (G : zGok g) (hfr : 2048 ≤ Rm.frames) (hlo : 84000 ≤ Rm.locals) (hb1 : b.1 + 951 ≤ Rm.cells) (hb2 : b.2 + 1006 ≤ Rm.slots) (hT_z : ∀ U, g.2.2.2 U → va_T .int s L (fun k => .int (xs k)) (zA g.2.2.1) U U.heap) (hi_z : iv.toInt = (i : Nat)) (hiL : i + 6 ≤ L) (hL : L ≤ 3072) (h_z : lwI w f j X T ty im p B th pl N) (hN_z : N < 1900000000)  (kk : ∀ (u5 u6 u7 : Option Value) w2 f2_z j2 b2, b2.1 ≤ b.1 + 951 → b2.2 ≤ b.2 + 1006 → lwI w2 f2_z j2 X T ty im p B th pl (N + 4) → zR (zVg g Rm QQ hh nm 8 (some .boolean)) cL_law RL 2729 [some (.ref s), some (.ref X), some (.ref (X + 239)), some (.ref (X + 260)), some (.int iv), u5, u6, u7] [] (zM w2 f2_z j2) b2) : zR (zVg g Rm QQ hh nm 8 (some .boolean)) cL_law RL 1927 [some (.ref s), some (.ref X), some (.ref (X + 239)), some (.ref (X + 260)), some (.int iv), u5, u6, u7] [] (zM w f j) b := by
  have hx := h_z.1.1
  have hX := shX_k hx
  have hO := h_z.1.2.2.2.1
  have hs := h_z.1.2.2.2.2.1
  have ht := h_z.1.2.2.2.2.2.1
  have hw := tb_wf ht
  have hS2 := h_z.1.2.1
  have hz := h_z.1.2.2.1
  refine r_aloadR1 dL_law_1927 ?_
  refine r_aloadR0 dL_law_1928 ?_
  refine r_iload4 dL_law_1929 ?_
  refine n_iconst dL_law_1931 (by decide) (fun r1931 e1931 => ?_)
  refine n_iadd dL_law_1932 (by omega) (fun r1932 e1932 => ?_)
  refine k_iald (k := i + 1) (v := .int (xs (i + 1))) hT_z (by omega) (by omega) (by omega) rfl dL_law_1933 ?_
  refine r_aloadR0 dL_law_1934 ?_
  refine r_iload4 dL_law_1935 ?_
  refine n_iconst dL_law_1937 (by decide) (fun r1937 e1937 => ?_)
  refine n_iadd dL_law_1938 (by omega) (fun r1938 e1938 => ?_)
  refine k_iald (k := i + 2) (v := .int (xs (i + 2))) hT_z (by omega) (by omega) (by omega) rfl dL_law_1939 ?_
  refine r_aloadR3 dL_law_1940 ?_
  refine q_callW (As := [.ref X, .int (xs (i + 1)), .int (xs (i + 2)), .ref (X + 260)]) (rest := []) zw_madeBy dL_law_1941 rfl rfl (by decide) (by first | exact Nat.le_of_ble_eq_true rfl | omega | (dsimp only; omega)) (by first | exact Nat.le_of_ble_eq_true rfl | omega | (dsimp only; omega)) (by first | exact Nat.le_of_ble_eq_true rfl | omega | (dsimp only; omega)) (by first | exact Nat.le_of_ble_eq_true rfl | omega | (dsimp only; omega)) (w_madeBy G hX (s_X11_madeBy G hx ht h_z.1.2.2.2.2.2.2.2.2.1 h_z.1.2.2.2.2.2.2.2.1  (fun hc0 n hn => Or.inl ⟨rfl, fun k1_z ek => ?_⟩) (fun hc0 hc1 n hn => Or.inr (Or.inl ⟨rfl, fun k1_z ek => ?_⟩)) (fun hc0 s l hc1 hc2 n hn => Or.inr (Or.inr (⟨rfl, fun k1_z ek => ?_⟩))) (fun hc0 s l hc1 hc2 rc f1_z ec hq => ⟨rc, w, f1_z, j, rfl, rfl, hO.1, hO.2, fun k1_z y1 ek ey => ?_⟩)))
  · have hI1 := lwI_s (n := n) h_z hn
    rw [show zsS (zM w f j) n = zM (zsS w n) f j from rfl]
    have hs := hI1.1.2.2.2.2.1
    have hO := hI1.1.2.2.2.1
    refine r_istore5 dL_law_1944 rfl ?_
    refine r_aloadR2 dL_law_1946 ?_
    refine r_aloadR0 dL_law_1947 ?_
    refine r_iload4 dL_law_1948 ?_
    refine n_iconst dL_law_1950 (by decide) (fun r1950 e1950 => ?_)
    refine n_iadd dL_law_1951 (by omega) (fun r1951 e1951 => ?_)
    refine k_iald (k := i + 1) (v := .int (xs (i + 1))) hT_z (by omega) (by omega) (by omega) rfl dL_law_1952 ?_
    refine r_aloadR0 dL_law_1953 ?_
    refine r_iload4 dL_law_1954 ?_
    refine n_iconst dL_law_1956 (by decide) (fun r1956 e1956 => ?_)
    refine n_iadd dL_law_1957 (by omega) (fun r1957 e1957 => ?_)
    refine k_iald (k := i + 2) (v := .int (xs (i + 2))) hT_z (by omega) (by omega) (by omega) rfl dL_law_1958 ?_
    refine q_callV2 zm_RL_260 dL_law_1959 (shM_k hs) (by decide) rfl (by decide) (by first | exact Nat.le_of_ble_eq_true rfl | omega | (dsimp only; omega)) (by first | exact Nat.le_of_ble_eq_true rfl | omega | (dsimp only; omega)) (by first | exact Nat.le_of_ble_eq_true rfl | omega | (dsimp only; omega)) (by first | exact Nat.le_of_ble_eq_true rfl | omega | (dsimp only; omega)) (s_X12_madeBy G hs hI1.2.1 hw hI1.2.2.2.2.1 (by have h9 := hI1.2.2.2.2.2.1; omega) hI1.2.2.1 (fun hy0 r6 f2_z j2 o6 t6 => ?_) (fun hy0 hy1 r6 f2_z j2 o6 t6 => ?_) (fun hy0 s9 l9 hy1 hy2 r6 f2_z j2 o6 t6 => ?_) (fun hy0 s9 l9 hy1 hy2 r6 f2_z j2 e6_z o6 t6 => ?_))
    · have hI2 := lwI_mq hI1 o6
      refine r_istore6 dL_law_1962 rfl ?_
      refine r_aloadR2 dL_law_1964 ?_
      refine q_callV0 zm_RL_151 dL_law_1965 (shM_k hs) (by decide) rfl (by first | exact Nat.le_of_ble_eq_true rfl | omega | (dsimp only; omega)) (by first | exact Nat.le_of_ble_eq_true rfl | omega | (dsimp only; omega)) (by first | exact Nat.le_of_ble_eq_true rfl | omega | (dsimp only; omega)) (by first | exact Nat.le_of_ble_eq_true rfl | omega | (dsimp only; omega)) (by first | exact Nat.le_of_ble_eq_true rfl | omega | (dsimp only; omega)) (s_X12_thrown G hs (fun r7 e7_z => ?_))
      have e7i : r7.toInt = (f2_z (X + 239) 4).toInt := by rw [e7_z]
      refine r_iload5 dL_law_1968 ?_
      refine t_iceq (t := 1975) dL_law_1970 (by decide) (fun h1970 => ?_) (fun h1970 => False.elim (by omega))
      refine r_iload5 dL_law_1975 ?_
      refine t_ifne (t := 1992) dL_law_1977 (by decide) (fun h1977 => ?_) (fun h1977 => False.elim (by omega))
      refine r_goto (t := 2729) dL_law_1992 (by decide) ?_
      refine kk _ _ _ _ _ _ _ ?_ ?_ (lwI_m hI2 (by omega))
      · first | omega | (dsimp only; omega)
      · first | omega | (dsimp only; omega)
    · exact False.elim (by first | omega | (rw [hc1] at hy1; cases hy1; done) | exact hc1 hy1 | exact hy1 hc1 | (cases Option.some.inj (hc1.symm.trans hy1); first | exact hc2 hy2 | exact hy2 hc2))
    · exact False.elim (by first | omega | (rw [hc1] at hy1; cases hy1; done) | exact hc1 hy1 | exact hy1 hc1 | (cases Option.some.inj (hc1.symm.trans hy1); first | exact hc2 hy2 | exact hy2 hc2))
    · exact False.elim (by first | omega | (rw [hc1] at hy1; cases hy1; done) | exact hc1 hy1 | exact hy1 hc1 | (cases Option.some.inj (hc1.symm.trans hy1); first | exact hc2 hy2 | exact hy2 hc2))
  · have hI1 := lwI_s (n := n) h_z hn
    rw [show zsS (zM w f j) n = zM (zsS w n) f j from rfl]
    have hs := hI1.1.2.2.2.2.1
    have hO := hI1.1.2.2.2.1
    refine r_istore5 dL_law_1944 rfl ?_
    refine r_aloadR2 dL_law_1946 ?_
    refine r_aloadR0 dL_law_1947 ?_
    refine r_iload4 dL_law_1948 ?_
    refine n_iconst dL_law_1950 (by decide) (fun r1950 e1950 => ?_)
    refine n_iadd dL_law_1951 (by omega) (fun r1951 e1951 => ?_)
    refine k_iald (k := i + 1) (v := .int (xs (i + 1))) hT_z (by omega) (by omega) (by omega) rfl dL_law_1952 ?_
    refine r_aloadR0 dL_law_1953 ?_
    refine r_iload4 dL_law_1954 ?_
    refine n_iconst dL_law_1956 (by decide) (fun r1956 e1956 => ?_)
    refine n_iadd dL_law_1957 (by omega) (fun r1957 e1957 => ?_)
    refine k_iald (k := i + 2) (v := .int (xs (i + 2))) hT_z (by omega) (by omega) (by omega) rfl dL_law_1958 ?_
    refine q_callV2 zm_RL_260 dL_law_1959 (shM_k hs) (by decide) rfl (by decide) (by first | exact Nat.le_of_ble_eq_true rfl | omega | (dsimp only; omega)) (by first | exact Nat.le_of_ble_eq_true rfl | omega | (dsimp only; omega)) (by first | exact Nat.le_of_ble_eq_true rfl | omega | (dsimp only; omega)) (by first | exact Nat.le_of_ble_eq_true rfl | omega | (dsimp only; omega)) (s_X12_madeBy G hs hI1.2.1 hw hI1.2.2.2.2.1 (by have h9 := hI1.2.2.2.2.2.1; omega) hI1.2.2.1 (fun hy0 r6 f2_z j2 o6 t6 => ?_) (fun hy0 hy1 r6 f2_z j2 o6 t6 => ?_) (fun hy0 s9 l9 hy1 hy2 r6 f2_z j2 o6 t6 => ?_) (fun hy0 s9 l9 hy1 hy2 r6 f2_z j2 e6_z o6 t6 => ?_))
    · exact False.elim (by first | omega | (rw [hc1] at hy1; cases hy1; done) | exact hc1 hy1 | exact hy1 hc1 | (cases Option.some.inj (hc1.symm.trans hy1); first | exact hc2 hy2 | exact hy2 hc2))
    · have hI2 := lwI_mq hI1 o6
      refine r_istore6 dL_law_1962 rfl ?_
      refine r_aloadR2 dL_law_1964 ?_
      refine q_callV0 zm_RL_151 dL_law_1965 (shM_k hs) (by decide) rfl (by first | exact Nat.le_of_ble_eq_true rfl | omega | (dsimp only; omega)) (by first | exact Nat.le_of_ble_eq_true rfl | omega | (dsimp only; omega)) (by first | exact Nat.le_of_ble_eq_true rfl | omega | (dsimp only; omega)) (by first | exact Nat.le_of_ble_eq_true rfl | omega | (dsimp only; omega)) (by first | exact Nat.le_of_ble_eq_true rfl | omega | (dsimp only; omega)) (s_X12_thrown G hs (fun r7 e7_z => ?_))
      have e7i : r7.toInt = (f2_z (X + 239) 4).toInt := by rw [e7_z]
      refine r_iload5 dL_law_1968 ?_
      refine t_iceq (t := 1975) dL_law_1970 (by decide) (fun h1970 => ?_) (fun h1970 => False.elim (by omega))
      refine r_iload5 dL_law_1975 ?_
      refine t_ifne (t := 1992) dL_law_1977 (by decide) (fun h1977 => ?_) (fun h1977 => False.elim (by omega))
      refine r_goto (t := 2729) dL_law_1992 (by decide) ?_
      refine kk _ _ _ _ _ _ _ ?_ ?_ (lwI_m hI2 (by omega))
      · first | omega | (dsimp only; omega)
      · first | omega | (dsimp only; omega)
    · exact False.elim (by first | omega | (rw [hc1] at hy1; cases hy1; done) | exact hc1 hy1 | exact hy1 hc1 | (cases Option.some.inj (hc1.symm.trans hy1); first | exact hc2 hy2 | exact hy2 hc2))
    · exact False.elim (by first | omega | (rw [hc1] at hy1; cases hy1; done) | exact hc1 hy1 | exact hy1 hc1 | (cases Option.some.inj (hc1.symm.trans hy1); first | exact hc2 hy2 | exact hy2 hc2))
  · have hI1 := lwI_s (n := n) h_z hn
    rw [show zsS (zM w f j) n = zM (zsS w n) f j from rfl]
    have hs := hI1.1.2.2.2.2.1
    have hO := hI1.1.2.2.2.1
    refine r_istore5 dL_law_1944 rfl ?_
    refine r_aloadR2 dL_law_1946 ?_
    refine r_aloadR0 dL_law_1947 ?_
    refine r_iload4 dL_law_1948 ?_
    refine n_iconst dL_law_1950 (by decide) (fun r1950 e1950 => ?_)
    refine n_iadd dL_law_1951 (by omega) (fun r1951 e1951 => ?_)
    refine k_iald (k := i + 1) (v := .int (xs (i + 1))) hT_z (by omega) (by omega) (by omega) rfl dL_law_1952 ?_
    refine r_aloadR0 dL_law_1953 ?_
    refine r_iload4 dL_law_1954 ?_
    refine n_iconst dL_law_1956 (by decide) (fun r1956 e1956 => ?_)
    refine n_iadd dL_law_1957 (by omega) (fun r1957 e1957 => ?_)
    refine k_iald (k := i + 2) (v := .int (xs (i + 2))) hT_z (by omega) (by omega) (by omega) rfl dL_law_1958 ?_
    refine q_callV2 zm_RL_260 dL_law_1959 (shM_k hs) (by decide) rfl (by decide) (by first | exact Nat.le_of_ble_eq_true rfl | omega | (dsimp only; omega)) (by first | exact Nat.le_of_ble_eq_true rfl | omega | (dsimp only; omega)) (by first | exact Nat.le_of_ble_eq_true rfl | omega | (dsimp only; omega)) (by first | exact Nat.le_of_ble_eq_true rfl | omega | (dsimp only; omega)) (s_X12_madeBy G hs hI1.2.1 hw hI1.2.2.2.2.1 (by have h9 := hI1.2.2.2.2.2.1; omega) hI1.2.2.1 (fun hy0 r6 f2_z j2 o6 t6 => ?_) (fun hy0 hy1 r6 f2_z j2 o6 t6 => ?_) (fun hy0 s9 l9 hy1 hy2 r6 f2_z j2 o6 t6 => ?_) (fun hy0 s9 l9 hy1 hy2 r6 f2_z j2 e6_z o6 t6 => ?_))
    · exact False.elim (by first | omega | (rw [hc1] at hy1; cases hy1; done) | exact hc1 hy1 | exact hy1 hc1 | (cases Option.some.inj (hc1.symm.trans hy1); first | exact hc2 hy2 | exact hy2 hc2))
    · exact False.elim (by first | omega | (rw [hc1] at hy1; cases hy1; done) | exact hc1 hy1 | exact hy1 hc1 | (cases Option.some.inj (hc1.symm.trans hy1); first | exact hc2 hy2 | exact hy2 hc2))
    · cases Option.some.inj (hc1.symm.trans hy1)
      have hI2 := lwI_mq hI1 o6
      refine r_istore6 dL_law_1962 rfl ?_
      refine r_aloadR2 dL_law_1964 ?_
      refine q_callV0 zm_RL_151 dL_law_1965 (shM_k hs) (by decide) rfl (by first | exact Nat.le_of_ble_eq_true rfl | omega | (dsimp only; omega)) (by first | exact Nat.le_of_ble_eq_true rfl | omega | (dsimp only; omega)) (by first | exact Nat.le_of_ble_eq_true rfl | omega | (dsimp only; omega)) (by first | exact Nat.le_of_ble_eq_true rfl | omega | (dsimp only; omega)) (by first | exact Nat.le_of_ble_eq_true rfl | omega | (dsimp only; omega)) (s_X12_thrown G hs (fun r7 e7_z => ?_))
      have e7i : r7.toInt = (f2_z (X + 239) 4).toInt := by rw [e7_z]
      refine r_iload5 dL_law_1968 ?_
      refine t_iceq (t := 1975) dL_law_1970 (by decide) (fun h1970 => ?_) (fun h1970 => False.elim (by omega))
      refine r_iload5 dL_law_1975 ?_
      refine t_ifne (t := 1992) dL_law_1977 (by decide) (fun h1977 => ?_) (fun h1977 => False.elim (by omega))
      refine r_goto (t := 2729) dL_law_1992 (by decide) ?_
      refine kk _ _ _ _ _ _ _ ?_ ?_ (lwI_m hI2 (by omega))
      · first | omega | (dsimp only; omega)
      · first | omega | (dsimp only; omega)
    · exact False.elim (by first | omega | (rw [hc1] at hy1; cases hy1; done) | exact hc1 hy1 | exact hy1 hc1 | (cases Option.some.inj (hc1.symm.trans hy1); first | exact hc2 hy2 | exact hy2 hc2))
  · have hI1 := lwI_o (y := y1) (lwI_cq h_z hq)
    have hs := hI1.1.2.2.2.2.1
    have hj1 : zu j (X + 260) 0 y1 (X + 260) 0 = y1 := zu_at
    obtain ⟨j1, hj⟩ : ∃ j9, j9 = zu j (X + 260) 0 y1 := ⟨_, rfl⟩
    rw [← hj] at hI1 hj1 ⊢
    refine r_istore5 dL_law_1944 rfl ?_
    refine r_aloadR2 dL_law_1946 ?_
    refine r_aloadR0 dL_law_1947 ?_
    refine r_iload4 dL_law_1948 ?_
    refine n_iconst dL_law_1950 (by decide) (fun r1950 e1950 => ?_)
    refine n_iadd dL_law_1951 (by omega) (fun r1951 e1951 => ?_)
    refine k_iald (k := i + 1) (v := .int (xs (i + 1))) hT_z (by omega) (by omega) (by omega) rfl dL_law_1952 ?_
    refine r_aloadR0 dL_law_1953 ?_
    refine r_iload4 dL_law_1954 ?_
    refine n_iconst dL_law_1956 (by decide) (fun r1956 e1956 => ?_)
    refine n_iadd dL_law_1957 (by omega) (fun r1957 e1957 => ?_)
    refine k_iald (k := i + 2) (v := .int (xs (i + 2))) hT_z (by omega) (by omega) (by omega) rfl dL_law_1958 ?_
    refine q_callV2 zm_RL_260 dL_law_1959 (shM_k hs) (by decide) rfl (by decide) (by first | exact Nat.le_of_ble_eq_true rfl | omega | (dsimp only; omega)) (by first | exact Nat.le_of_ble_eq_true rfl | omega | (dsimp only; omega)) (by first | exact Nat.le_of_ble_eq_true rfl | omega | (dsimp only; omega)) (by first | exact Nat.le_of_ble_eq_true rfl | omega | (dsimp only; omega)) (s_X12_madeBy G hs hI1.2.1 hw hI1.2.2.2.2.1 (by have h9 := hI1.2.2.2.2.2.1; omega) hI1.2.2.1 (fun hy0 r6 f2_z j2 o6 t6 => ?_) (fun hy0 hy1 r6 f2_z j2 o6 t6 => ?_) (fun hy0 s9 l9 hy1 hy2 r6 f2_z j2 o6 t6 => ?_) (fun hy0 s9 l9 hy1 hy2 r6 f2_z j2 e6_z o6 t6 => ?_))
    · exact False.elim (by first | omega | (rw [hc1] at hy1; cases hy1; done) | exact hc1 hy1 | exact hy1 hc1 | (cases Option.some.inj (hc1.symm.trans hy1); first | exact hc2 hy2 | exact hy2 hc2))
    · exact False.elim (by first | omega | (rw [hc1] at hy1; cases hy1; done) | exact hc1 hy1 | exact hy1 hc1 | (cases Option.some.inj (hc1.symm.trans hy1); first | exact hc2 hy2 | exact hy2 hc2))
    · exact False.elim (by first | omega | (rw [hc1] at hy1; cases hy1; done) | exact hc1 hy1 | exact hy1 hc1 | (cases Option.some.inj (hc1.symm.trans hy1); first | exact hc2 hy2 | exact hy2 hc2))
    · cases Option.some.inj (hc1.symm.trans hy1)
      have hI2 := lwI_mq hI1 o6
      have hl2 : (j2 (X + 260) 0).toInt = y1.toInt := by rw [o6.2.1 (X + 260) (by omega), hj1]
      have he9 : rc.toInt = r6.toInt := by first | (rw [ec, e6_z]; exact fd_e (pd := fun L _ => @decide (creC L l) (Classical.propDecidable _)) (k := 6)) | (rw [ec, e6_z]; exact fd_e (pd := fun L _ => @decide (creC L l9) (Classical.propDecidable _)) (k := 6)) | omega
      refine r_istore6 dL_law_1962 rfl ?_
      refine r_aloadR2 dL_law_1964 ?_
      refine q_callV0 zm_RL_151 dL_law_1965 (shM_k hs) (by decide) rfl (by first | exact Nat.le_of_ble_eq_true rfl | omega | (dsimp only; omega)) (by first | exact Nat.le_of_ble_eq_true rfl | omega | (dsimp only; omega)) (by first | exact Nat.le_of_ble_eq_true rfl | omega | (dsimp only; omega)) (by first | exact Nat.le_of_ble_eq_true rfl | omega | (dsimp only; omega)) (by first | exact Nat.le_of_ble_eq_true rfl | omega | (dsimp only; omega)) (s_X12_thrown G hs (fun r7 e7_z => ?_))
      have e7i : r7.toInt = (f2_z (X + 239) 4).toInt := by rw [e7_z]
      refine r_iload5 dL_law_1968 ?_
      refine t_iceq (t := 1975) dL_law_1970 (by decide) (fun h1970 => ?_) (fun h1970 => False.elim (by omega))
      refine r_iload5 dL_law_1975 ?_
      refine t_ifne (t := 1992) dL_law_1977 (by decide) (fun h1977 => False.elim (by omega)) (fun h1977 => ?_)
      refine r_aloadR3 dL_law_1980 ?_
      refine n_iconst dL_law_1981 (by decide) (fun r1981 e1981 => ?_)
      refine m_lald (k := 0) (x := (j2 (X + 260) 0)) dL_law_1982 hO.1 hO.2 (by omega) (by omega) (rfl) ?_
      refine r_iload6 dL_law_1983 ?_
      refine n_i2l dL_law_1985 (fun r1985 e1985 => ?_)
      refine n_lcmp dL_law_1986 (fun r1986 e1986 => ?_)
      unfold zcmp at e1986
      refine t_ifeq (t := 1992) dL_law_1987 (by decide) (fun h1987 => ?_) (fun h1987 => False.elim (by omega))
      refine r_goto (t := 2729) dL_law_1992 (by decide) ?_
      refine kk _ _ _ _ _ _ _ ?_ ?_ (lwI_m hI2 (by omega))
      · first | omega | (dsimp only; omega)
      · first | omega | (dsimp only; omega)
set_option maxHeartbeats 4000000 in
set_option maxRecDepth 100000 in
theorem lc_40 {g : zGT} {Rm : Room} {QQ : List Frame → Array Value → State → State → Prop} {hh : List (Nat × Nat × Nat × Nat)} {nm : String} {w : zW} {f : Nat → Nat → Int32} {j : Nat → Nat → Int64} {s X L i N : Nat} {xs : Nat → Int32} {T : zTb} {ty : Nat → zTy} {im : Nat → Option zTb} {p : Nat} {B : Nat → Nat} {th pl : Int} {iv : Int32} {u5 u6 u7 : Option Value} {b : Nat × Nat} (G : zGok g) (hfr : 2048 ≤ Rm.frames) (hlo : 84000 ≤ Rm.locals) (hb1 : b.1 + 951 ≤ Rm.cells) (hb2 : b.2 + 1006 ≤ Rm.slots) (hT_z : ∀ U, g.2.2.2 U → va_T .int s L (fun k => .int (xs k)) (zA g.2.2.1) U U.heap) (hi_z : iv.toInt = (i : Nat)) (hiL : i + 6 ≤ L) (hL : L ≤ 3072) (h_z : lwI w f j X T ty im p B th pl N) (hN_z : N < 1900000000)  (kk : ∀ (u5 u6 u7 : Option Value) w2 f2_z j2 b2, b2.1 ≤ b.1 + 951 → b2.2 ≤ b.2 + 1006 → lwI w2 f2_z j2 X T ty im p B th pl (N + 4) → zR (zVg g Rm QQ hh nm 8 (some .boolean)) cL_law RL 2729 [some (.ref s), some (.ref X), some (.ref (X + 239)), some (.ref (X + 260)), some (.int iv), u5, u6, u7] [] (zM w2 f2_z j2) b2) : zR (zVg g Rm QQ hh nm 8 (some .boolean)) cL_law RL 2269 [some (.ref s), some (.ref X), some (.ref (X + 239)), some (.ref (X + 260)), some (.int iv), u5, u6, u7] [] (zM w f j) b := by
  have hx := h_z.1.1
  have hX := shX_k hx
  have hO := h_z.1.2.2.2.1
  have hs := h_z.1.2.2.2.2.1
  have ht := h_z.1.2.2.2.2.2.1
  have hw := tb_wf ht
  have hS2 := h_z.1.2.1
  have hz := h_z.1.2.2.1
  refine r_aloadR1 dL_law_2269 ?_
  refine r_aloadR0 dL_law_2270 ?_
  refine r_iload4 dL_law_2271 ?_
  refine n_iconst dL_law_2273 (by decide) (fun r2273 e2273 => ?_)
  refine n_iadd dL_law_2274 (by omega) (fun r2274 e2274 => ?_)
  refine k_iald (k := i + 1) (v := .int (xs (i + 1))) hT_z (by omega) (by omega) (by omega) rfl dL_law_2275 ?_
  refine r_aloadR0 dL_law_2276 ?_
  refine r_iload4 dL_law_2277 ?_
  refine n_iconst dL_law_2279 (by decide) (fun r2279 e2279 => ?_)
  refine n_iadd dL_law_2280 (by omega) (fun r2280 e2280 => ?_)
  refine k_iald (k := i + 2) (v := .int (xs (i + 2))) hT_z (by omega) (by omega) (by omega) rfl dL_law_2281 ?_
  refine r_aloadR3 dL_law_2282 ?_
  refine q_callW (As := [.ref X, .int (xs (i + 1)), .int (xs (i + 2)), .ref (X + 260)]) (rest := []) zw_sure dL_law_2283 rfl rfl (by decide) (by first | exact Nat.le_of_ble_eq_true rfl | omega | (dsimp only; omega)) (by first | exact Nat.le_of_ble_eq_true rfl | omega | (dsimp only; omega)) (by first | exact Nat.le_of_ble_eq_true rfl | omega | (dsimp only; omega)) (by first | exact Nat.le_of_ble_eq_true rfl | omega | (dsimp only; omega)) (w_sure G hX (s_X11_sure G hx ht h_z.1.2.2.2.2.2.2.2.2.1 h_z.1.2.2.2.2.2.2.2.1  (fun hc0 n hn => Or.inl ⟨rfl, fun k1_z ek => ?_⟩) (fun hc0 hc1 n hn => Or.inr (Or.inl ⟨rfl, fun k1_z ek => ?_⟩)) (fun hc0 s l hc1 hc2 n hn => Or.inr (Or.inr (⟨rfl, fun k1_z ek => ?_⟩))) (fun hc0 s l hc1 hc2 rc f1_z ec hq => ⟨rc, w, f1_z, j, rfl, rfl, hO.1, hO.2, fun k1_z y1 ek ey => ?_⟩)))
  · have hI1 := lwI_s (n := n) h_z hn
    rw [show zsS (zM w f j) n = zM (zsS w n) f j from rfl]
    have hs := hI1.1.2.2.2.2.1
    have hO := hI1.1.2.2.2.1
    refine r_istore5 dL_law_2286 rfl ?_
    refine r_aloadR2 dL_law_2288 ?_
    refine r_aloadR0 dL_law_2289 ?_
    refine r_iload4 dL_law_2290 ?_
    refine n_iconst dL_law_2292 (by decide) (fun r2292 e2292 => ?_)
    refine n_iadd dL_law_2293 (by omega) (fun r2293 e2293 => ?_)
    refine k_iald (k := i + 1) (v := .int (xs (i + 1))) hT_z (by omega) (by omega) (by omega) rfl dL_law_2294 ?_
    refine r_aloadR0 dL_law_2295 ?_
    refine r_iload4 dL_law_2296 ?_
    refine n_iconst dL_law_2298 (by decide) (fun r2298 e2298 => ?_)
    refine n_iadd dL_law_2299 (by omega) (fun r2299 e2299 => ?_)
    refine k_iald (k := i + 2) (v := .int (xs (i + 2))) hT_z (by omega) (by omega) (by omega) rfl dL_law_2300 ?_
    refine q_callV2 zm_RL_283 dL_law_2301 (shM_k hs) (by decide) rfl (by decide) (by first | exact Nat.le_of_ble_eq_true rfl | omega | (dsimp only; omega)) (by first | exact Nat.le_of_ble_eq_true rfl | omega | (dsimp only; omega)) (by first | exact Nat.le_of_ble_eq_true rfl | omega | (dsimp only; omega)) (by first | exact Nat.le_of_ble_eq_true rfl | omega | (dsimp only; omega)) (s_X12_sure G hs hI1.2.1 hw hI1.2.2.2.2.1 (by have h9 := hI1.2.2.2.2.2.1; omega) hI1.2.2.1 (fun hy0 r6 f2_z j2 o6 t6 => ?_) (fun hy0 hy1 r6 f2_z j2 o6 t6 => ?_) (fun hy0 s9 l9 hy1 hy2 r6 f2_z j2 o6 t6 => ?_) (fun hy0 s9 l9 hy1 hy2 r6 f2_z j2 e6_z o6 t6 => ?_))
    · have hI2 := lwI_mq hI1 o6
      refine r_istore6 dL_law_2304 rfl ?_
      refine r_aloadR2 dL_law_2306 ?_
      refine q_callV0 zm_RL_151 dL_law_2307 (shM_k hs) (by decide) rfl (by first | exact Nat.le_of_ble_eq_true rfl | omega | (dsimp only; omega)) (by first | exact Nat.le_of_ble_eq_true rfl | omega | (dsimp only; omega)) (by first | exact Nat.le_of_ble_eq_true rfl | omega | (dsimp only; omega)) (by first | exact Nat.le_of_ble_eq_true rfl | omega | (dsimp only; omega)) (by first | exact Nat.le_of_ble_eq_true rfl | omega | (dsimp only; omega)) (s_X12_thrown G hs (fun r7 e7_z => ?_))
      have e7i : r7.toInt = (f2_z (X + 239) 4).toInt := by rw [e7_z]
      refine r_iload5 dL_law_2310 ?_
      refine t_iceq (t := 2317) dL_law_2312 (by decide) (fun h2312 => ?_) (fun h2312 => False.elim (by omega))
      refine r_iload5 dL_law_2317 ?_
      refine t_ifne (t := 2334) dL_law_2319 (by decide) (fun h2319 => ?_) (fun h2319 => False.elim (by omega))
      refine r_goto (t := 2729) dL_law_2334 (by decide) ?_
      refine kk _ _ _ _ _ _ _ ?_ ?_ (lwI_m hI2 (by omega))
      · first | omega | (dsimp only; omega)
      · first | omega | (dsimp only; omega)
    · exact False.elim (by first | omega | (rw [hc1] at hy1; cases hy1; done) | exact hc1 hy1 | exact hy1 hc1 | (cases Option.some.inj (hc1.symm.trans hy1); first | exact hc2 hy2 | exact hy2 hc2))
    · exact False.elim (by first | omega | (rw [hc1] at hy1; cases hy1; done) | exact hc1 hy1 | exact hy1 hc1 | (cases Option.some.inj (hc1.symm.trans hy1); first | exact hc2 hy2 | exact hy2 hc2))
    · exact False.elim (by first | omega | (rw [hc1] at hy1; cases hy1; done) | exact hc1 hy1 | exact hy1 hc1 | (cases Option.some.inj (hc1.symm.trans hy1); first | exact hc2 hy2 | exact hy2 hc2))
  · have hI1 := lwI_s (n := n) h_z hn
    rw [show zsS (zM w f j) n = zM (zsS w n) f j from rfl]
    have hs := hI1.1.2.2.2.2.1
    have hO := hI1.1.2.2.2.1
    refine r_istore5 dL_law_2286 rfl ?_
    refine r_aloadR2 dL_law_2288 ?_
    refine r_aloadR0 dL_law_2289 ?_
    refine r_iload4 dL_law_2290 ?_
    refine n_iconst dL_law_2292 (by decide) (fun r2292 e2292 => ?_)
    refine n_iadd dL_law_2293 (by omega) (fun r2293 e2293 => ?_)
    refine k_iald (k := i + 1) (v := .int (xs (i + 1))) hT_z (by omega) (by omega) (by omega) rfl dL_law_2294 ?_
    refine r_aloadR0 dL_law_2295 ?_
    refine r_iload4 dL_law_2296 ?_
    refine n_iconst dL_law_2298 (by decide) (fun r2298 e2298 => ?_)
    refine n_iadd dL_law_2299 (by omega) (fun r2299 e2299 => ?_)
    refine k_iald (k := i + 2) (v := .int (xs (i + 2))) hT_z (by omega) (by omega) (by omega) rfl dL_law_2300 ?_
    refine q_callV2 zm_RL_283 dL_law_2301 (shM_k hs) (by decide) rfl (by decide) (by first | exact Nat.le_of_ble_eq_true rfl | omega | (dsimp only; omega)) (by first | exact Nat.le_of_ble_eq_true rfl | omega | (dsimp only; omega)) (by first | exact Nat.le_of_ble_eq_true rfl | omega | (dsimp only; omega)) (by first | exact Nat.le_of_ble_eq_true rfl | omega | (dsimp only; omega)) (s_X12_sure G hs hI1.2.1 hw hI1.2.2.2.2.1 (by have h9 := hI1.2.2.2.2.2.1; omega) hI1.2.2.1 (fun hy0 r6 f2_z j2 o6 t6 => ?_) (fun hy0 hy1 r6 f2_z j2 o6 t6 => ?_) (fun hy0 s9 l9 hy1 hy2 r6 f2_z j2 o6 t6 => ?_) (fun hy0 s9 l9 hy1 hy2 r6 f2_z j2 e6_z o6 t6 => ?_))
    · exact False.elim (by first | omega | (rw [hc1] at hy1; cases hy1; done) | exact hc1 hy1 | exact hy1 hc1 | (cases Option.some.inj (hc1.symm.trans hy1); first | exact hc2 hy2 | exact hy2 hc2))
    · have hI2 := lwI_mq hI1 o6
      refine r_istore6 dL_law_2304 rfl ?_
      refine r_aloadR2 dL_law_2306 ?_
      refine q_callV0 zm_RL_151 dL_law_2307 (shM_k hs) (by decide) rfl (by first | exact Nat.le_of_ble_eq_true rfl | omega | (dsimp only; omega)) (by first | exact Nat.le_of_ble_eq_true rfl | omega | (dsimp only; omega)) (by first | exact Nat.le_of_ble_eq_true rfl | omega | (dsimp only; omega)) (by first | exact Nat.le_of_ble_eq_true rfl | omega | (dsimp only; omega)) (by first | exact Nat.le_of_ble_eq_true rfl | omega | (dsimp only; omega)) (s_X12_thrown G hs (fun r7 e7_z => ?_))
      have e7i : r7.toInt = (f2_z (X + 239) 4).toInt := by rw [e7_z]
      refine r_iload5 dL_law_2310 ?_
      refine t_iceq (t := 2317) dL_law_2312 (by decide) (fun h2312 => ?_) (fun h2312 => False.elim (by omega))
      refine r_iload5 dL_law_2317 ?_
      refine t_ifne (t := 2334) dL_law_2319 (by decide) (fun h2319 => ?_) (fun h2319 => False.elim (by omega))
      refine r_goto (t := 2729) dL_law_2334 (by decide) ?_
      refine kk _ _ _ _ _ _ _ ?_ ?_ (lwI_m hI2 (by omega))
      · first | omega | (dsimp only; omega)
      · first | omega | (dsimp only; omega)
    · exact False.elim (by first | omega | (rw [hc1] at hy1; cases hy1; done) | exact hc1 hy1 | exact hy1 hc1 | (cases Option.some.inj (hc1.symm.trans hy1); first | exact hc2 hy2 | exact hy2 hc2))
    · exact False.elim (by first | omega | (rw [hc1] at hy1; cases hy1; done) | exact hc1 hy1 | exact hy1 hc1 | (cases Option.some.inj (hc1.symm.trans hy1); first | exact hc2 hy2 | exact hy2 hc2))
  · have hI1 := lwI_s (n := n) h_z hn
    rw [show zsS (zM w f j) n = zM (zsS w n) f j from rfl]
    have hs := hI1.1.2.2.2.2.1
    have hO := hI1.1.2.2.2.1
    refine r_istore5 dL_law_2286 rfl ?_
    refine r_aloadR2 dL_law_2288 ?_
    refine r_aloadR0 dL_law_2289 ?_
    refine r_iload4 dL_law_2290 ?_
    refine n_iconst dL_law_2292 (by decide) (fun r2292 e2292 => ?_)
    refine n_iadd dL_law_2293 (by omega) (fun r2293 e2293 => ?_)
    refine k_iald (k := i + 1) (v := .int (xs (i + 1))) hT_z (by omega) (by omega) (by omega) rfl dL_law_2294 ?_
    refine r_aloadR0 dL_law_2295 ?_
    refine r_iload4 dL_law_2296 ?_
    refine n_iconst dL_law_2298 (by decide) (fun r2298 e2298 => ?_)
    refine n_iadd dL_law_2299 (by omega) (fun r2299 e2299 => ?_)
    refine k_iald (k := i + 2) (v := .int (xs (i + 2))) hT_z (by omega) (by omega) (by omega) rfl dL_law_2300 ?_
    refine q_callV2 zm_RL_283 dL_law_2301 (shM_k hs) (by decide) rfl (by decide) (by first | exact Nat.le_of_ble_eq_true rfl | omega | (dsimp only; omega)) (by first | exact Nat.le_of_ble_eq_true rfl | omega | (dsimp only; omega)) (by first | exact Nat.le_of_ble_eq_true rfl | omega | (dsimp only; omega)) (by first | exact Nat.le_of_ble_eq_true rfl | omega | (dsimp only; omega)) (s_X12_sure G hs hI1.2.1 hw hI1.2.2.2.2.1 (by have h9 := hI1.2.2.2.2.2.1; omega) hI1.2.2.1 (fun hy0 r6 f2_z j2 o6 t6 => ?_) (fun hy0 hy1 r6 f2_z j2 o6 t6 => ?_) (fun hy0 s9 l9 hy1 hy2 r6 f2_z j2 o6 t6 => ?_) (fun hy0 s9 l9 hy1 hy2 r6 f2_z j2 e6_z o6 t6 => ?_))
    · exact False.elim (by first | omega | (rw [hc1] at hy1; cases hy1; done) | exact hc1 hy1 | exact hy1 hc1 | (cases Option.some.inj (hc1.symm.trans hy1); first | exact hc2 hy2 | exact hy2 hc2))
    · exact False.elim (by first | omega | (rw [hc1] at hy1; cases hy1; done) | exact hc1 hy1 | exact hy1 hc1 | (cases Option.some.inj (hc1.symm.trans hy1); first | exact hc2 hy2 | exact hy2 hc2))
    · cases Option.some.inj (hc1.symm.trans hy1)
      have hI2 := lwI_mq hI1 o6
      refine r_istore6 dL_law_2304 rfl ?_
      refine r_aloadR2 dL_law_2306 ?_
      refine q_callV0 zm_RL_151 dL_law_2307 (shM_k hs) (by decide) rfl (by first | exact Nat.le_of_ble_eq_true rfl | omega | (dsimp only; omega)) (by first | exact Nat.le_of_ble_eq_true rfl | omega | (dsimp only; omega)) (by first | exact Nat.le_of_ble_eq_true rfl | omega | (dsimp only; omega)) (by first | exact Nat.le_of_ble_eq_true rfl | omega | (dsimp only; omega)) (by first | exact Nat.le_of_ble_eq_true rfl | omega | (dsimp only; omega)) (s_X12_thrown G hs (fun r7 e7_z => ?_))
      have e7i : r7.toInt = (f2_z (X + 239) 4).toInt := by rw [e7_z]
      refine r_iload5 dL_law_2310 ?_
      refine t_iceq (t := 2317) dL_law_2312 (by decide) (fun h2312 => ?_) (fun h2312 => False.elim (by omega))
      refine r_iload5 dL_law_2317 ?_
      refine t_ifne (t := 2334) dL_law_2319 (by decide) (fun h2319 => ?_) (fun h2319 => False.elim (by omega))
      refine r_goto (t := 2729) dL_law_2334 (by decide) ?_
      refine kk _ _ _ _ _ _ _ ?_ ?_ (lwI_m hI2 (by omega))
      · first | omega | (dsimp only; omega)
      · first | omega | (dsimp only; omega)
    · exact False.elim (by first | omega | (rw [hc1] at hy1; cases hy1; done) | exact hc1 hy1 | exact hy1 hc1 | (cases Option.some.inj (hc1.symm.trans hy1); first | exact hc2 hy2 | exact hy2 hc2))
  · have hI1 := lwI_o (y := y1) (lwI_cq h_z hq)
    have hs := hI1.1.2.2.2.2.1
    have hj1 : zu j (X + 260) 0 y1 (X + 260) 0 = y1 := zu_at
    obtain ⟨j1, hj⟩ : ∃ j9, j9 = zu j (X + 260) 0 y1 := ⟨_, rfl⟩
    rw [← hj] at hI1 hj1 ⊢
    refine r_istore5 dL_law_2286 rfl ?_
    refine r_aloadR2 dL_law_2288 ?_
    refine r_aloadR0 dL_law_2289 ?_
    refine r_iload4 dL_law_2290 ?_
    refine n_iconst dL_law_2292 (by decide) (fun r2292 e2292 => ?_)
    refine n_iadd dL_law_2293 (by omega) (fun r2293 e2293 => ?_)
    refine k_iald (k := i + 1) (v := .int (xs (i + 1))) hT_z (by omega) (by omega) (by omega) rfl dL_law_2294 ?_
    refine r_aloadR0 dL_law_2295 ?_
    refine r_iload4 dL_law_2296 ?_
    refine n_iconst dL_law_2298 (by decide) (fun r2298 e2298 => ?_)
    refine n_iadd dL_law_2299 (by omega) (fun r2299 e2299 => ?_)
    refine k_iald (k := i + 2) (v := .int (xs (i + 2))) hT_z (by omega) (by omega) (by omega) rfl dL_law_2300 ?_
    refine q_callV2 zm_RL_283 dL_law_2301 (shM_k hs) (by decide) rfl (by decide) (by first | exact Nat.le_of_ble_eq_true rfl | omega | (dsimp only; omega)) (by first | exact Nat.le_of_ble_eq_true rfl | omega | (dsimp only; omega)) (by first | exact Nat.le_of_ble_eq_true rfl | omega | (dsimp only; omega)) (by first | exact Nat.le_of_ble_eq_true rfl | omega | (dsimp only; omega)) (s_X12_sure G hs hI1.2.1 hw hI1.2.2.2.2.1 (by have h9 := hI1.2.2.2.2.2.1; omega) hI1.2.2.1 (fun hy0 r6 f2_z j2 o6 t6 => ?_) (fun hy0 hy1 r6 f2_z j2 o6 t6 => ?_) (fun hy0 s9 l9 hy1 hy2 r6 f2_z j2 o6 t6 => ?_) (fun hy0 s9 l9 hy1 hy2 r6 f2_z j2 e6_z o6 t6 => ?_))
    · exact False.elim (by first | omega | (rw [hc1] at hy1; cases hy1; done) | exact hc1 hy1 | exact hy1 hc1 | (cases Option.some.inj (hc1.symm.trans hy1); first | exact hc2 hy2 | exact hy2 hc2))
    · exact False.elim (by first | omega | (rw [hc1] at hy1; cases hy1; done) | exact hc1 hy1 | exact hy1 hc1 | (cases Option.some.inj (hc1.symm.trans hy1); first | exact hc2 hy2 | exact hy2 hc2))
    · exact False.elim (by first | omega | (rw [hc1] at hy1; cases hy1; done) | exact hc1 hy1 | exact hy1 hc1 | (cases Option.some.inj (hc1.symm.trans hy1); first | exact hc2 hy2 | exact hy2 hc2))
    · cases Option.some.inj (hc1.symm.trans hy1)
      have hI2 := lwI_mq hI1 o6
      have hl2 : (j2 (X + 260) 0).toInt = y1.toInt := by rw [o6.2.1 (X + 260) (by omega), hj1]
      have he9 : rc.toInt = r6.toInt := by rw [ec, e6_z]; exact eq_sure (rch_flat hw.2.1)
      refine r_istore6 dL_law_2304 rfl ?_
      refine r_aloadR2 dL_law_2306 ?_
      refine q_callV0 zm_RL_151 dL_law_2307 (shM_k hs) (by decide) rfl (by first | exact Nat.le_of_ble_eq_true rfl | omega | (dsimp only; omega)) (by first | exact Nat.le_of_ble_eq_true rfl | omega | (dsimp only; omega)) (by first | exact Nat.le_of_ble_eq_true rfl | omega | (dsimp only; omega)) (by first | exact Nat.le_of_ble_eq_true rfl | omega | (dsimp only; omega)) (by first | exact Nat.le_of_ble_eq_true rfl | omega | (dsimp only; omega)) (s_X12_thrown G hs (fun r7 e7_z => ?_))
      have e7i : r7.toInt = (f2_z (X + 239) 4).toInt := by rw [e7_z]
      refine r_iload5 dL_law_2310 ?_
      refine t_iceq (t := 2317) dL_law_2312 (by decide) (fun h2312 => ?_) (fun h2312 => False.elim (by omega))
      refine r_iload5 dL_law_2317 ?_
      refine t_ifne (t := 2334) dL_law_2319 (by decide) (fun h2319 => False.elim (by omega)) (fun h2319 => ?_)
      refine r_aloadR3 dL_law_2322 ?_
      refine n_iconst dL_law_2323 (by decide) (fun r2323 e2323 => ?_)
      refine m_lald (k := 0) (x := (j2 (X + 260) 0)) dL_law_2324 hO.1 hO.2 (by omega) (by omega) (rfl) ?_
      refine r_iload6 dL_law_2325 ?_
      refine n_i2l dL_law_2327 (fun r2327 e2327 => ?_)
      refine n_lcmp dL_law_2328 (fun r2328 e2328 => ?_)
      unfold zcmp at e2328
      refine t_ifeq (t := 2334) dL_law_2329 (by decide) (fun h2329 => ?_) (fun h2329 => False.elim (by omega))
      refine r_goto (t := 2729) dL_law_2334 (by decide) ?_
      refine kk _ _ _ _ _ _ _ ?_ ?_ (lwI_m hI2 (by omega))
      · first | omega | (dsimp only; omega)
      · first | omega | (dsimp only; omega)
