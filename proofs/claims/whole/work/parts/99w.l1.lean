/-! the law: the cases -/
theorem q_callW {g : zGT} {Rm : Room} {QQ : List Frame → Array Value → State → State → Prop} {hh : List (Nat × Nat × Nat × Nat)} {nm : String} {nL : Nat} {ret : Option FieldType} {cd : ByteArray} {ow : String} {pc : Nat} {ls : List (Option Value)} {st : List Value} {w : zW} {b : Nat × Nat} {ix n d2 : Nat} {y2 : MethodName} {cd2 : ByteArray} {nL2 : Nat} {ret2 : Option FieldType} {hh2 : List (Nat × Nat × Nat × Nat)} {As rest : List Value} {b2 : Nat × Nat} (hl : zlW ow ix y2 cd2 nL2 ret2 hh2 n) (hd_z : decode cd pc = .ok (.invokestatic ix, 3)) (hst : st = As.reverse ++ rest) (hn : As.length = n) (hW : (rest.map fun v => v.category).sum ≤ 8) (hd2 : d2 + 1 ≤ Rm.frames) (hd3 : 64 * (d2 + 1) ≤ Rm.locals) (h1 : b.1 + b2.1 ≤ Rm.cells) (h2 : b.2 + b2.2 ≤ Rm.slots) (hM_z : zCW g d2 y2 cd2 nL2 ret2 hh2 As w b2 (fun r w2 => zR (zVg g Rm QQ hh nm nL ret) cd ow (pc + 3) ls (r.toList ++ rest) w2 (b.1 + b2.1, b.2 + b2.2))) : zR (zVg g Rm QQ hh nm nL ret) cd ow pc ls st w b := r_callW hl hd_z hM_z hst hn hW hd2 hd3 h1 h2 (fun _ _ h_z => h_z)
set_option maxHeartbeats 4000000 in
set_option maxRecDepth 100000 in
theorem lc_3 {g : zGT} {Rm : Room} {QQ : List Frame → Array Value → State → State → Prop} {hh : List (Nat × Nat × Nat × Nat)} {nm : String} {w : zW} {f : Nat → Nat → Int32} {j : Nat → Nat → Int64} {s X L i N : Nat} {xs : Nat → Int32} {T : zTb} {ty : Nat → zTy} {im : Nat → Option zTb} {p : Nat} {B : Nat → Nat} {th pl : Int} {iv : Int32} {u5 u6 u7 : Option Value} {b : Nat × Nat} (G : zGok g) (hfr : 2048 ≤ Rm.frames) (hlo : 84000 ≤ Rm.locals) (hb1 : b.1 + 951 ≤ Rm.cells) (hb2 : b.2 + 1006 ≤ Rm.slots) (hT_z : ∀ U, g.2.2.2 U → va_T .int s L (fun k => .int (xs k)) (zA g.2.2.1) U U.heap) (hi_z : iv.toInt = (i : Nat)) (hiL : i + 6 ≤ L) (hL : L ≤ 3072) (h_z : lwI w f j X T ty im p B th pl N) (hN_z : N < 1900000000)  (kk : ∀ (u5 u6 u7 : Option Value) w2 f2_z j2 b2, b2.1 ≤ b.1 + 951 → b2.2 ≤ b.2 + 1006 → lwI w2 f2_z j2 X T ty im p B th pl (N + 1) → zR (zVg g Rm QQ hh nm 8 (some .boolean)) cL_law RL 2729 [some (.ref s), some (.ref X), some (.ref (X + 239)), some (.ref (X + 260)), some (.int iv), u5, u6, u7] [] (zM w2 f2_z j2) b2) : zR (zVg g Rm QQ hh nm 8 (some .boolean)) cL_law RL 402 [some (.ref s), some (.ref X), some (.ref (X + 239)), some (.ref (X + 260)), some (.int iv), u5, u6, u7] [] (zM w f j) b := by
  have hx := h_z.1.1
  have hX := shX_k hx
  have hO := h_z.1.2.2.2.1
  have hs := h_z.1.2.2.2.2.1
  have ht := h_z.1.2.2.2.2.2.1
  have hw := tb_wf ht
  have hS2 := h_z.1.2.1
  have hz := h_z.1.2.2.1
  refine r_aloadR1 dL_law_402 ?_
  refine r_aloadR0 dL_law_403 ?_
  refine r_iload4 dL_law_404 ?_
  refine n_iconst dL_law_406 (by decide) (fun r406 e406 => ?_)
  refine n_iadd dL_law_407 (by omega) (fun r407 e407 => ?_)
  refine k_iald (k := i + 1) (v := .int (xs (i + 1))) hT_z (by omega) (by omega) (by omega) rfl dL_law_408 ?_
  refine r_aloadR0 dL_law_409 ?_
  refine r_iload4 dL_law_410 ?_
  refine n_iconst dL_law_412 (by decide) (fun r412 e412 => ?_)
  refine n_iadd dL_law_413 (by omega) (fun r413 e413 => ?_)
  refine k_iald (k := i + 2) (v := .int (xs (i + 2))) hT_z (by omega) (by omega) (by omega) rfl dL_law_414 ?_
  refine r_aloadR3 dL_law_415 ?_
  refine q_callW (As := [.ref X, .int (xs (i + 1)), .int (xs (i + 2)), .ref (X + 260)]) (rest := []) zw_cell dL_law_416 rfl rfl (by decide) (by first | exact Nat.le_of_ble_eq_true rfl | omega | (dsimp only; omega)) (by first | exact Nat.le_of_ble_eq_true rfl | omega | (dsimp only; omega)) (by first | exact Nat.le_of_ble_eq_true rfl | omega | (dsimp only; omega)) (by first | exact Nat.le_of_ble_eq_true rfl | omega | (dsimp only; omega)) (w_cell G hX (s_X11_cell G hx ht  (fun hc0 n hn => Or.inl ⟨rfl, fun k1_z ek => ?_⟩) (fun hc0 hc1 n hn => Or.inr (⟨rfl, fun k1_z ek => ?_⟩)) (fun hc0 hc1 rc f1_z ec hq => ⟨rc, w, f1_z, j, rfl, rfl, hO.1, hO.2, fun k1_z y1 ek ey => ?_⟩)))
  · have hI1 := lwI_s (n := n) h_z hn
    rw [show zsS (zM w f j) n = zM (zsS w n) f j from rfl]
    have hs := hI1.1.2.2.2.2.1
    have hO := hI1.1.2.2.2.1
    refine r_istore5 dL_law_419 rfl ?_
    refine r_aloadR2 dL_law_421 ?_
    refine r_aloadR0 dL_law_422 ?_
    refine r_iload4 dL_law_423 ?_
    refine n_iconst dL_law_425 (by decide) (fun r425 e425 => ?_)
    refine n_iadd dL_law_426 (by omega) (fun r426 e426 => ?_)
    refine k_iald (k := i + 1) (v := .int (xs (i + 1))) hT_z (by omega) (by omega) (by omega) rfl dL_law_427 ?_
    refine r_aloadR0 dL_law_428 ?_
    refine r_iload4 dL_law_429 ?_
    refine n_iconst dL_law_431 (by decide) (fun r431 e431 => ?_)
    refine n_iadd dL_law_432 (by omega) (fun r432 e432 => ?_)
    refine k_iald (k := i + 2) (v := .int (xs (i + 2))) hT_z (by omega) (by omega) (by omega) rfl dL_law_433 ?_
    refine q_callV2 zm_RL_161 dL_law_434 (shM_k hs) (by decide) rfl (by decide) (by first | exact Nat.le_of_ble_eq_true rfl | omega | (dsimp only; omega)) (by first | exact Nat.le_of_ble_eq_true rfl | omega | (dsimp only; omega)) (by first | exact Nat.le_of_ble_eq_true rfl | omega | (dsimp only; omega)) (by first | exact Nat.le_of_ble_eq_true rfl | omega | (dsimp only; omega)) (s_X12_cell G hs hI1.2.1 hw (fun hy0 r6 f2_z o6 t6 => ?_) (fun hy0 hy1 r6 f2_z o6 t6 => ?_) (fun hy0 hy1 r6 f2_z e6_z o6 t6 => ?_))
    · have hI2 := lwI_mq hI1 (qM_q (frM_su o6 (by decide) (by decide)))
      refine r_istore6 dL_law_437 rfl ?_
      refine r_aloadR2 dL_law_439 ?_
      refine q_callV0 zm_RL_151 dL_law_440 (shM_k hs) (by decide) rfl (by first | exact Nat.le_of_ble_eq_true rfl | omega | (dsimp only; omega)) (by first | exact Nat.le_of_ble_eq_true rfl | omega | (dsimp only; omega)) (by first | exact Nat.le_of_ble_eq_true rfl | omega | (dsimp only; omega)) (by first | exact Nat.le_of_ble_eq_true rfl | omega | (dsimp only; omega)) (by first | exact Nat.le_of_ble_eq_true rfl | omega | (dsimp only; omega)) (s_X12_thrown G hs (fun r7 e7_z => ?_))
      have e7i : r7.toInt = (f2_z (X + 239) 4).toInt := by rw [e7_z]
      refine r_iload5 dL_law_443 ?_
      refine t_iceq (t := 450) dL_law_445 (by decide) (fun h445 => ?_) (fun h445 => False.elim (by omega))
      refine r_iload5 dL_law_450 ?_
      refine t_ifne (t := 467) dL_law_452 (by decide) (fun h452 => ?_) (fun h452 => False.elim (by omega))
      refine r_goto (t := 2729) dL_law_467 (by decide) ?_
      refine kk _ _ _ _ _ _ _ ?_ ?_ (lwI_m hI2 (by omega))
      · first | omega | (dsimp only; omega)
      · first | omega | (dsimp only; omega)
    · exact False.elim (by omega)
    · exact False.elim (by omega)
  · have hI1 := lwI_s (n := n) h_z hn
    rw [show zsS (zM w f j) n = zM (zsS w n) f j from rfl]
    have hs := hI1.1.2.2.2.2.1
    have hO := hI1.1.2.2.2.1
    refine r_istore5 dL_law_419 rfl ?_
    refine r_aloadR2 dL_law_421 ?_
    refine r_aloadR0 dL_law_422 ?_
    refine r_iload4 dL_law_423 ?_
    refine n_iconst dL_law_425 (by decide) (fun r425 e425 => ?_)
    refine n_iadd dL_law_426 (by omega) (fun r426 e426 => ?_)
    refine k_iald (k := i + 1) (v := .int (xs (i + 1))) hT_z (by omega) (by omega) (by omega) rfl dL_law_427 ?_
    refine r_aloadR0 dL_law_428 ?_
    refine r_iload4 dL_law_429 ?_
    refine n_iconst dL_law_431 (by decide) (fun r431 e431 => ?_)
    refine n_iadd dL_law_432 (by omega) (fun r432 e432 => ?_)
    refine k_iald (k := i + 2) (v := .int (xs (i + 2))) hT_z (by omega) (by omega) (by omega) rfl dL_law_433 ?_
    refine q_callV2 zm_RL_161 dL_law_434 (shM_k hs) (by decide) rfl (by decide) (by first | exact Nat.le_of_ble_eq_true rfl | omega | (dsimp only; omega)) (by first | exact Nat.le_of_ble_eq_true rfl | omega | (dsimp only; omega)) (by first | exact Nat.le_of_ble_eq_true rfl | omega | (dsimp only; omega)) (by first | exact Nat.le_of_ble_eq_true rfl | omega | (dsimp only; omega)) (s_X12_cell G hs hI1.2.1 hw (fun hy0 r6 f2_z o6 t6 => ?_) (fun hy0 hy1 r6 f2_z o6 t6 => ?_) (fun hy0 hy1 r6 f2_z e6_z o6 t6 => ?_))
    · exact False.elim (by omega)
    · have hI2 := lwI_mq hI1 (qM_q (frM_su o6 (by decide) (by decide)))
      refine r_istore6 dL_law_437 rfl ?_
      refine r_aloadR2 dL_law_439 ?_
      refine q_callV0 zm_RL_151 dL_law_440 (shM_k hs) (by decide) rfl (by first | exact Nat.le_of_ble_eq_true rfl | omega | (dsimp only; omega)) (by first | exact Nat.le_of_ble_eq_true rfl | omega | (dsimp only; omega)) (by first | exact Nat.le_of_ble_eq_true rfl | omega | (dsimp only; omega)) (by first | exact Nat.le_of_ble_eq_true rfl | omega | (dsimp only; omega)) (by first | exact Nat.le_of_ble_eq_true rfl | omega | (dsimp only; omega)) (s_X12_thrown G hs (fun r7 e7_z => ?_))
      have e7i : r7.toInt = (f2_z (X + 239) 4).toInt := by rw [e7_z]
      refine r_iload5 dL_law_443 ?_
      refine t_iceq (t := 450) dL_law_445 (by decide) (fun h445 => ?_) (fun h445 => False.elim (by omega))
      refine r_iload5 dL_law_450 ?_
      refine t_ifne (t := 467) dL_law_452 (by decide) (fun h452 => ?_) (fun h452 => False.elim (by omega))
      refine r_goto (t := 2729) dL_law_467 (by decide) ?_
      refine kk _ _ _ _ _ _ _ ?_ ?_ (lwI_m hI2 (by omega))
      · first | omega | (dsimp only; omega)
      · first | omega | (dsimp only; omega)
    · exact False.elim (by omega)
  · have hI1 := lwI_o (y := y1) (lwI_cq h_z hq)
    have hs := hI1.1.2.2.2.2.1
    have hj1 : zu j (X + 260) 0 y1 (X + 260) 0 = y1 := zu_at
    obtain ⟨j1, hj⟩ : ∃ j9, j9 = zu j (X + 260) 0 y1 := ⟨_, rfl⟩
    rw [← hj] at hI1 hj1 ⊢
    refine r_istore5 dL_law_419 rfl ?_
    refine r_aloadR2 dL_law_421 ?_
    refine r_aloadR0 dL_law_422 ?_
    refine r_iload4 dL_law_423 ?_
    refine n_iconst dL_law_425 (by decide) (fun r425 e425 => ?_)
    refine n_iadd dL_law_426 (by omega) (fun r426 e426 => ?_)
    refine k_iald (k := i + 1) (v := .int (xs (i + 1))) hT_z (by omega) (by omega) (by omega) rfl dL_law_427 ?_
    refine r_aloadR0 dL_law_428 ?_
    refine r_iload4 dL_law_429 ?_
    refine n_iconst dL_law_431 (by decide) (fun r431 e431 => ?_)
    refine n_iadd dL_law_432 (by omega) (fun r432 e432 => ?_)
    refine k_iald (k := i + 2) (v := .int (xs (i + 2))) hT_z (by omega) (by omega) (by omega) rfl dL_law_433 ?_
    refine q_callV2 zm_RL_161 dL_law_434 (shM_k hs) (by decide) rfl (by decide) (by first | exact Nat.le_of_ble_eq_true rfl | omega | (dsimp only; omega)) (by first | exact Nat.le_of_ble_eq_true rfl | omega | (dsimp only; omega)) (by first | exact Nat.le_of_ble_eq_true rfl | omega | (dsimp only; omega)) (by first | exact Nat.le_of_ble_eq_true rfl | omega | (dsimp only; omega)) (s_X12_cell G hs hI1.2.1 hw (fun hy0 r6 f2_z o6 t6 => ?_) (fun hy0 hy1 r6 f2_z o6 t6 => ?_) (fun hy0 hy1 r6 f2_z e6_z o6 t6 => ?_))
    · exact False.elim (by omega)
    · exact False.elim (by omega)
    · have hI2 := lwI_mq hI1 (qM_q (frM_su o6 (by decide) (by decide)))
      have hl2 : (j1 (X + 260) 0).toInt = y1.toInt := by rw [hj1]
      have he9 : rc.toInt = r6.toInt := by first | (rw [ec, e6_z]; done) | omega
      refine r_istore6 dL_law_437 rfl ?_
      refine r_aloadR2 dL_law_439 ?_
      refine q_callV0 zm_RL_151 dL_law_440 (shM_k hs) (by decide) rfl (by first | exact Nat.le_of_ble_eq_true rfl | omega | (dsimp only; omega)) (by first | exact Nat.le_of_ble_eq_true rfl | omega | (dsimp only; omega)) (by first | exact Nat.le_of_ble_eq_true rfl | omega | (dsimp only; omega)) (by first | exact Nat.le_of_ble_eq_true rfl | omega | (dsimp only; omega)) (by first | exact Nat.le_of_ble_eq_true rfl | omega | (dsimp only; omega)) (s_X12_thrown G hs (fun r7 e7_z => ?_))
      have e7i : r7.toInt = (f2_z (X + 239) 4).toInt := by rw [e7_z]
      refine r_iload5 dL_law_443 ?_
      refine t_iceq (t := 450) dL_law_445 (by decide) (fun h445 => ?_) (fun h445 => False.elim (by omega))
      refine r_iload5 dL_law_450 ?_
      refine t_ifne (t := 467) dL_law_452 (by decide) (fun h452 => False.elim (by omega)) (fun h452 => ?_)
      refine r_aloadR3 dL_law_455 ?_
      refine n_iconst dL_law_456 (by decide) (fun r456 e456 => ?_)
      refine m_lald (k := 0) (x := (j1 (X + 260) 0)) dL_law_457 hO.1 hO.2 (by omega) (by omega) (rfl) ?_
      refine r_iload6 dL_law_458 ?_
      refine n_i2l dL_law_460 (fun r460 e460 => ?_)
      refine n_lcmp dL_law_461 (fun r461 e461 => ?_)
      unfold zcmp at e461
      refine t_ifeq (t := 467) dL_law_462 (by decide) (fun h462 => ?_) (fun h462 => False.elim (by omega))
      refine r_goto (t := 2729) dL_law_467 (by decide) ?_
      refine kk _ _ _ _ _ _ _ ?_ ?_ (lwI_m hI2 (by omega))
      · first | omega | (dsimp only; omega)
      · first | omega | (dsimp only; omega)
set_option maxHeartbeats 4000000 in
set_option maxRecDepth 100000 in
theorem lc_4 {g : zGT} {Rm : Room} {QQ : List Frame → Array Value → State → State → Prop} {hh : List (Nat × Nat × Nat × Nat)} {nm : String} {w : zW} {f : Nat → Nat → Int32} {j : Nat → Nat → Int64} {s X L i N : Nat} {xs : Nat → Int32} {T : zTb} {ty : Nat → zTy} {im : Nat → Option zTb} {p : Nat} {B : Nat → Nat} {th pl : Int} {iv : Int32} {u5 u6 u7 : Option Value} {b : Nat × Nat} (G : zGok g) (hfr : 2048 ≤ Rm.frames) (hlo : 84000 ≤ Rm.locals) (hb1 : b.1 + 951 ≤ Rm.cells) (hb2 : b.2 + 1006 ≤ Rm.slots) (hT_z : ∀ U, g.2.2.2 U → va_T .int s L (fun k => .int (xs k)) (zA g.2.2.1) U U.heap) (hi_z : iv.toInt = (i : Nat)) (hiL : i + 6 ≤ L) (hL : L ≤ 3072) (h_z : lwI w f j X T ty im p B th pl N) (hN_z : N < 1900000000)  (kk : ∀ (u5 u6 u7 : Option Value) w2 f2_z j2 b2, b2.1 ≤ b.1 + 951 → b2.2 ≤ b.2 + 1006 → lwI w2 f2_z j2 X T ty im p B th pl (N + 1) → zR (zVg g Rm QQ hh nm 8 (some .boolean)) cL_law RL 2729 [some (.ref s), some (.ref X), some (.ref (X + 239)), some (.ref (X + 260)), some (.int iv), u5, u6, u7] [] (zM w2 f2_z j2) b2) : zR (zVg g Rm QQ hh nm 8 (some .boolean)) cL_law RL 470 [some (.ref s), some (.ref X), some (.ref (X + 239)), some (.ref (X + 260)), some (.int iv), u5, u6, u7] [] (zM w f j) b := by
  have hx := h_z.1.1
  have hX := shX_k hx
  have hO := h_z.1.2.2.2.1
  have hs := h_z.1.2.2.2.2.1
  have ht := h_z.1.2.2.2.2.2.1
  have hw := tb_wf ht
  have hS2 := h_z.1.2.1
  have hz := h_z.1.2.2.1
  refine r_aloadR1 dL_law_470 ?_
  refine r_aloadR0 dL_law_471 ?_
  refine r_iload4 dL_law_472 ?_
  refine n_iconst dL_law_474 (by decide) (fun r474 e474 => ?_)
  refine n_iadd dL_law_475 (by omega) (fun r475 e475 => ?_)
  refine k_iald (k := i + 1) (v := .int (xs (i + 1))) hT_z (by omega) (by omega) (by omega) rfl dL_law_476 ?_
  refine r_aloadR3 dL_law_477 ?_
  refine q_callW (As := [.ref X, .int (xs (i + 1)), .ref (X + 260)]) (rest := []) zw_high dL_law_478 rfl rfl (by decide) (by first | exact Nat.le_of_ble_eq_true rfl | omega | (dsimp only; omega)) (by first | exact Nat.le_of_ble_eq_true rfl | omega | (dsimp only; omega)) (by first | exact Nat.le_of_ble_eq_true rfl | omega | (dsimp only; omega)) (by first | exact Nat.le_of_ble_eq_true rfl | omega | (dsimp only; omega)) (w_high G hX (s_X11_high G hx ht  (fun hc0 f1_z hq n hn => ⟨rfl, fun k1_z ek => ?_⟩) (fun hc0 rc f1_z ec hq => ⟨rc, w, f1_z, j, rfl, rfl, hO.1, hO.2, fun k1_z y1 ek ey => ?_⟩)))
  · have hI1 := lwI_s (n := n) (lwI_cq h_z hq) hn
    rw [show zsS (zM w f1_z j) n = zM (zsS w n) f1_z j from rfl]
    have hs := hI1.1.2.2.2.2.1
    have hO := hI1.1.2.2.2.1
    refine r_istore5 dL_law_481 rfl ?_
    refine r_aloadR2 dL_law_483 ?_
    refine r_aloadR0 dL_law_484 ?_
    refine r_iload4 dL_law_485 ?_
    refine n_iconst dL_law_487 (by decide) (fun r487 e487 => ?_)
    refine n_iadd dL_law_488 (by omega) (fun r488 e488 => ?_)
    refine k_iald (k := i + 1) (v := .int (xs (i + 1))) hT_z (by omega) (by omega) (by omega) rfl dL_law_489 ?_
    refine q_callV1 zm_RL_164 dL_law_490 (shM_k hs) (by decide) rfl (by decide) (by first | exact Nat.le_of_ble_eq_true rfl | omega | (dsimp only; omega)) (by first | exact Nat.le_of_ble_eq_true rfl | omega | (dsimp only; omega)) (by first | exact Nat.le_of_ble_eq_true rfl | omega | (dsimp only; omega)) (by first | exact Nat.le_of_ble_eq_true rfl | omega | (dsimp only; omega)) (s_X12_high G hs hI1.2.1 hw (fun hy0 r6 f2_z o6 t6 => ?_) (fun hy0 r6 f2_z e6_z o6 t6 => ?_))
    · have hI2 := lwI_mq hI1 (qM_q (frM_su o6 (by decide) (by decide)))
      refine r_istore6 dL_law_493 rfl ?_
      refine r_aloadR2 dL_law_495 ?_
      refine q_callV0 zm_RL_151 dL_law_496 (shM_k hs) (by decide) rfl (by first | exact Nat.le_of_ble_eq_true rfl | omega | (dsimp only; omega)) (by first | exact Nat.le_of_ble_eq_true rfl | omega | (dsimp only; omega)) (by first | exact Nat.le_of_ble_eq_true rfl | omega | (dsimp only; omega)) (by first | exact Nat.le_of_ble_eq_true rfl | omega | (dsimp only; omega)) (by first | exact Nat.le_of_ble_eq_true rfl | omega | (dsimp only; omega)) (s_X12_thrown G hs (fun r7 e7_z => ?_))
      have e7i : r7.toInt = (f2_z (X + 239) 4).toInt := by rw [e7_z]
      refine r_iload5 dL_law_499 ?_
      refine t_iceq (t := 506) dL_law_501 (by decide) (fun h501 => ?_) (fun h501 => False.elim (by omega))
      refine r_iload5 dL_law_506 ?_
      refine t_ifne (t := 523) dL_law_508 (by decide) (fun h508 => ?_) (fun h508 => False.elim (by omega))
      refine r_goto (t := 2729) dL_law_523 (by decide) ?_
      refine kk _ _ _ _ _ _ _ ?_ ?_ (lwI_m hI2 (by omega))
      · first | omega | (dsimp only; omega)
      · first | omega | (dsimp only; omega)
    · exact False.elim (by omega)
  · have hI1 := lwI_o (y := y1) (lwI_cq h_z hq)
    have hs := hI1.1.2.2.2.2.1
    have hj1 : zu j (X + 260) 0 y1 (X + 260) 0 = y1 := zu_at
    obtain ⟨j1, hj⟩ : ∃ j9, j9 = zu j (X + 260) 0 y1 := ⟨_, rfl⟩
    rw [← hj] at hI1 hj1 ⊢
    refine r_istore5 dL_law_481 rfl ?_
    refine r_aloadR2 dL_law_483 ?_
    refine r_aloadR0 dL_law_484 ?_
    refine r_iload4 dL_law_485 ?_
    refine n_iconst dL_law_487 (by decide) (fun r487 e487 => ?_)
    refine n_iadd dL_law_488 (by omega) (fun r488 e488 => ?_)
    refine k_iald (k := i + 1) (v := .int (xs (i + 1))) hT_z (by omega) (by omega) (by omega) rfl dL_law_489 ?_
    refine q_callV1 zm_RL_164 dL_law_490 (shM_k hs) (by decide) rfl (by decide) (by first | exact Nat.le_of_ble_eq_true rfl | omega | (dsimp only; omega)) (by first | exact Nat.le_of_ble_eq_true rfl | omega | (dsimp only; omega)) (by first | exact Nat.le_of_ble_eq_true rfl | omega | (dsimp only; omega)) (by first | exact Nat.le_of_ble_eq_true rfl | omega | (dsimp only; omega)) (s_X12_high G hs hI1.2.1 hw (fun hy0 r6 f2_z o6 t6 => ?_) (fun hy0 r6 f2_z e6_z o6 t6 => ?_))
    · exact False.elim (by omega)
    · have hI2 := lwI_mq hI1 (qM_q (frM_su o6 (by decide) (by decide)))
      have hl2 : (j1 (X + 260) 0).toInt = y1.toInt := by rw [hj1]
      have he9 : rc.toInt = r6.toInt := by first | (rw [ec, e6_z]; done) | omega
      refine r_istore6 dL_law_493 rfl ?_
      refine r_aloadR2 dL_law_495 ?_
      refine q_callV0 zm_RL_151 dL_law_496 (shM_k hs) (by decide) rfl (by first | exact Nat.le_of_ble_eq_true rfl | omega | (dsimp only; omega)) (by first | exact Nat.le_of_ble_eq_true rfl | omega | (dsimp only; omega)) (by first | exact Nat.le_of_ble_eq_true rfl | omega | (dsimp only; omega)) (by first | exact Nat.le_of_ble_eq_true rfl | omega | (dsimp only; omega)) (by first | exact Nat.le_of_ble_eq_true rfl | omega | (dsimp only; omega)) (s_X12_thrown G hs (fun r7 e7_z => ?_))
      have e7i : r7.toInt = (f2_z (X + 239) 4).toInt := by rw [e7_z]
      refine r_iload5 dL_law_499 ?_
      refine t_iceq (t := 506) dL_law_501 (by decide) (fun h501 => ?_) (fun h501 => False.elim (by omega))
      refine r_iload5 dL_law_506 ?_
      refine t_ifne (t := 523) dL_law_508 (by decide) (fun h508 => False.elim (by omega)) (fun h508 => ?_)
      refine r_aloadR3 dL_law_511 ?_
      refine n_iconst dL_law_512 (by decide) (fun r512 e512 => ?_)
      refine m_lald (k := 0) (x := (j1 (X + 260) 0)) dL_law_513 hO.1 hO.2 (by omega) (by omega) (rfl) ?_
      refine r_iload6 dL_law_514 ?_
      refine n_i2l dL_law_516 (fun r516 e516 => ?_)
      refine n_lcmp dL_law_517 (fun r517 e517 => ?_)
      unfold zcmp at e517
      refine t_ifeq (t := 523) dL_law_518 (by decide) (fun h518 => ?_) (fun h518 => False.elim (by omega))
      refine r_goto (t := 2729) dL_law_523 (by decide) ?_
      refine kk _ _ _ _ _ _ _ ?_ ?_ (lwI_m hI2 (by omega))
      · first | omega | (dsimp only; omega)
      · first | omega | (dsimp only; omega)
set_option maxHeartbeats 4000000 in
set_option maxRecDepth 100000 in
theorem lc_6 {g : zGT} {Rm : Room} {QQ : List Frame → Array Value → State → State → Prop} {hh : List (Nat × Nat × Nat × Nat)} {nm : String} {w : zW} {f : Nat → Nat → Int32} {j : Nat → Nat → Int64} {s X L i N : Nat} {xs : Nat → Int32} {T : zTb} {ty : Nat → zTy} {im : Nat → Option zTb} {p : Nat} {B : Nat → Nat} {th pl : Int} {iv : Int32} {u5 u6 u7 : Option Value} {b : Nat × Nat} (G : zGok g) (hfr : 2048 ≤ Rm.frames) (hlo : 84000 ≤ Rm.locals) (hb1 : b.1 + 951 ≤ Rm.cells) (hb2 : b.2 + 1006 ≤ Rm.slots) (hT_z : ∀ U, g.2.2.2 U → va_T .int s L (fun k => .int (xs k)) (zA g.2.2.1) U U.heap) (hi_z : iv.toInt = (i : Nat)) (hiL : i + 6 ≤ L) (hL : L ≤ 3072) (h_z : lwI w f j X T ty im p B th pl N) (hN_z : N < 1900000000)  (kk : ∀ (u5 u6 u7 : Option Value) w2 f2_z j2 b2, b2.1 ≤ b.1 + 951 → b2.2 ≤ b.2 + 1006 → lwI w2 f2_z j2 X T ty im p B th pl (N + 1) → zR (zVg g Rm QQ hh nm 8 (some .boolean)) cL_law RL 2729 [some (.ref s), some (.ref X), some (.ref (X + 239)), some (.ref (X + 260)), some (.int iv), u5, u6, u7] [] (zM w2 f2_z j2) b2) : zR (zVg g Rm QQ hh nm 8 (some .boolean)) cL_law RL 594 [some (.ref s), some (.ref X), some (.ref (X + 239)), some (.ref (X + 260)), some (.int iv), u5, u6, u7] [] (zM w f j) b := by
  have hx := h_z.1.1
  have hX := shX_k hx
  have hO := h_z.1.2.2.2.1
  have hs := h_z.1.2.2.2.2.1
  have ht := h_z.1.2.2.2.2.2.1
  have hw := tb_wf ht
  have hS2 := h_z.1.2.1
  have hz := h_z.1.2.2.1
  refine r_aloadR1 dL_law_594 ?_
  refine r_aloadR0 dL_law_595 ?_
  refine r_iload4 dL_law_596 ?_
  refine n_iconst dL_law_598 (by decide) (fun r598 e598 => ?_)
  refine n_iadd dL_law_599 (by omega) (fun r599 e599 => ?_)
  refine k_iald (k := i + 1) (v := .int (xs (i + 1))) hT_z (by omega) (by omega) (by omega) rfl dL_law_600 ?_
  refine r_aloadR3 dL_law_601 ?_
  refine q_callW (As := [.ref X, .int (xs (i + 1)), .ref (X + 260)]) (rest := []) zw_above dL_law_602 rfl rfl (by decide) (by first | exact Nat.le_of_ble_eq_true rfl | omega | (dsimp only; omega)) (by first | exact Nat.le_of_ble_eq_true rfl | omega | (dsimp only; omega)) (by first | exact Nat.le_of_ble_eq_true rfl | omega | (dsimp only; omega)) (by first | exact Nat.le_of_ble_eq_true rfl | omega | (dsimp only; omega)) (w_above G hX (s_X11_above G hx ht  (fun hc0 f1_z hq n hn => ⟨rfl, fun k1_z ek => ?_⟩) (fun hc0 rc f1_z ec hq => ⟨rc, w, f1_z, j, rfl, rfl, hO.1, hO.2, fun k1_z y1 ek ey => ?_⟩)))
  · have hI1 := lwI_s (n := n) (lwI_cq h_z hq) hn
    rw [show zsS (zM w f1_z j) n = zM (zsS w n) f1_z j from rfl]
    have hs := hI1.1.2.2.2.2.1
    have hO := hI1.1.2.2.2.1
    refine r_istore5 dL_law_605 rfl ?_
    refine r_aloadR2 dL_law_607 ?_
    refine r_aloadR0 dL_law_608 ?_
    refine r_iload4 dL_law_609 ?_
    refine n_iconst dL_law_611 (by decide) (fun r611 e611 => ?_)
    refine n_iadd dL_law_612 (by omega) (fun r612 e612 => ?_)
    refine k_iald (k := i + 1) (v := .int (xs (i + 1))) hT_z (by omega) (by omega) (by omega) rfl dL_law_613 ?_
    refine q_callV1 zm_RL_170 dL_law_614 (shM_k hs) (by decide) rfl (by decide) (by first | exact Nat.le_of_ble_eq_true rfl | omega | (dsimp only; omega)) (by first | exact Nat.le_of_ble_eq_true rfl | omega | (dsimp only; omega)) (by first | exact Nat.le_of_ble_eq_true rfl | omega | (dsimp only; omega)) (by first | exact Nat.le_of_ble_eq_true rfl | omega | (dsimp only; omega)) (s_X12_above G hs hI1.2.1 hw (fun hy0 r6 f2_z o6 t6 => ?_) (fun hy0 r6 f2_z e6_z o6 t6 => ?_))
    · have hI2 := lwI_mq hI1 (qM_q (frM_su o6 (by decide) (by decide)))
      refine r_istore6 dL_law_617 rfl ?_
      refine r_aloadR2 dL_law_619 ?_
      refine q_callV0 zm_RL_151 dL_law_620 (shM_k hs) (by decide) rfl (by first | exact Nat.le_of_ble_eq_true rfl | omega | (dsimp only; omega)) (by first | exact Nat.le_of_ble_eq_true rfl | omega | (dsimp only; omega)) (by first | exact Nat.le_of_ble_eq_true rfl | omega | (dsimp only; omega)) (by first | exact Nat.le_of_ble_eq_true rfl | omega | (dsimp only; omega)) (by first | exact Nat.le_of_ble_eq_true rfl | omega | (dsimp only; omega)) (s_X12_thrown G hs (fun r7 e7_z => ?_))
      have e7i : r7.toInt = (f2_z (X + 239) 4).toInt := by rw [e7_z]
      refine r_iload5 dL_law_623 ?_
      refine t_iceq (t := 630) dL_law_625 (by decide) (fun h625 => ?_) (fun h625 => False.elim (by omega))
      refine r_iload5 dL_law_630 ?_
      refine t_ifne (t := 647) dL_law_632 (by decide) (fun h632 => ?_) (fun h632 => False.elim (by omega))
      refine r_goto (t := 2729) dL_law_647 (by decide) ?_
      refine kk _ _ _ _ _ _ _ ?_ ?_ (lwI_m hI2 (by omega))
      · first | omega | (dsimp only; omega)
      · first | omega | (dsimp only; omega)
    · exact False.elim (by omega)
  · have hI1 := lwI_o (y := y1) (lwI_cq h_z hq)
    have hs := hI1.1.2.2.2.2.1
    have hj1 : zu j (X + 260) 0 y1 (X + 260) 0 = y1 := zu_at
    obtain ⟨j1, hj⟩ : ∃ j9, j9 = zu j (X + 260) 0 y1 := ⟨_, rfl⟩
    rw [← hj] at hI1 hj1 ⊢
    refine r_istore5 dL_law_605 rfl ?_
    refine r_aloadR2 dL_law_607 ?_
    refine r_aloadR0 dL_law_608 ?_
    refine r_iload4 dL_law_609 ?_
    refine n_iconst dL_law_611 (by decide) (fun r611 e611 => ?_)
    refine n_iadd dL_law_612 (by omega) (fun r612 e612 => ?_)
    refine k_iald (k := i + 1) (v := .int (xs (i + 1))) hT_z (by omega) (by omega) (by omega) rfl dL_law_613 ?_
    refine q_callV1 zm_RL_170 dL_law_614 (shM_k hs) (by decide) rfl (by decide) (by first | exact Nat.le_of_ble_eq_true rfl | omega | (dsimp only; omega)) (by first | exact Nat.le_of_ble_eq_true rfl | omega | (dsimp only; omega)) (by first | exact Nat.le_of_ble_eq_true rfl | omega | (dsimp only; omega)) (by first | exact Nat.le_of_ble_eq_true rfl | omega | (dsimp only; omega)) (s_X12_above G hs hI1.2.1 hw (fun hy0 r6 f2_z o6 t6 => ?_) (fun hy0 r6 f2_z e6_z o6 t6 => ?_))
    · exact False.elim (by omega)
    · have hI2 := lwI_mq hI1 (qM_q (frM_su o6 (by decide) (by decide)))
      have hl2 : (j1 (X + 260) 0).toInt = y1.toInt := by rw [hj1]
      have he9 : rc.toInt = r6.toInt := by first | (rw [ec, e6_z]; done) | omega
      refine r_istore6 dL_law_617 rfl ?_
      refine r_aloadR2 dL_law_619 ?_
      refine q_callV0 zm_RL_151 dL_law_620 (shM_k hs) (by decide) rfl (by first | exact Nat.le_of_ble_eq_true rfl | omega | (dsimp only; omega)) (by first | exact Nat.le_of_ble_eq_true rfl | omega | (dsimp only; omega)) (by first | exact Nat.le_of_ble_eq_true rfl | omega | (dsimp only; omega)) (by first | exact Nat.le_of_ble_eq_true rfl | omega | (dsimp only; omega)) (by first | exact Nat.le_of_ble_eq_true rfl | omega | (dsimp only; omega)) (s_X12_thrown G hs (fun r7 e7_z => ?_))
      have e7i : r7.toInt = (f2_z (X + 239) 4).toInt := by rw [e7_z]
      refine r_iload5 dL_law_623 ?_
      refine t_iceq (t := 630) dL_law_625 (by decide) (fun h625 => ?_) (fun h625 => False.elim (by omega))
      refine r_iload5 dL_law_630 ?_
      refine t_ifne (t := 647) dL_law_632 (by decide) (fun h632 => False.elim (by omega)) (fun h632 => ?_)
      refine r_aloadR3 dL_law_635 ?_
      refine n_iconst dL_law_636 (by decide) (fun r636 e636 => ?_)
      refine m_lald (k := 0) (x := (j1 (X + 260) 0)) dL_law_637 hO.1 hO.2 (by omega) (by omega) (rfl) ?_
      refine r_iload6 dL_law_638 ?_
      refine n_i2l dL_law_640 (fun r640 e640 => ?_)
      refine n_lcmp dL_law_641 (fun r641 e641 => ?_)
      unfold zcmp at e641
      refine t_ifeq (t := 647) dL_law_642 (by decide) (fun h642 => ?_) (fun h642 => False.elim (by omega))
      refine r_goto (t := 2729) dL_law_647 (by decide) ?_
      refine kk _ _ _ _ _ _ _ ?_ ?_ (lwI_m hI2 (by omega))
      · first | omega | (dsimp only; omega)
      · first | omega | (dsimp only; omega)
set_option maxHeartbeats 4000000 in
set_option maxRecDepth 100000 in
theorem lc_7 {g : zGT} {Rm : Room} {QQ : List Frame → Array Value → State → State → Prop} {hh : List (Nat × Nat × Nat × Nat)} {nm : String} {w : zW} {f : Nat → Nat → Int32} {j : Nat → Nat → Int64} {s X L i N : Nat} {xs : Nat → Int32} {T : zTb} {ty : Nat → zTy} {im : Nat → Option zTb} {p : Nat} {B : Nat → Nat} {th pl : Int} {iv : Int32} {u5 u6 u7 : Option Value} {b : Nat × Nat} (G : zGok g) (hfr : 2048 ≤ Rm.frames) (hlo : 84000 ≤ Rm.locals) (hb1 : b.1 + 951 ≤ Rm.cells) (hb2 : b.2 + 1006 ≤ Rm.slots) (hT_z : ∀ U, g.2.2.2 U → va_T .int s L (fun k => .int (xs k)) (zA g.2.2.1) U U.heap) (hi_z : iv.toInt = (i : Nat)) (hiL : i + 6 ≤ L) (hL : L ≤ 3072) (h_z : lwI w f j X T ty im p B th pl N) (hN_z : N < 1900000000)  (kk : ∀ (u5 u6 u7 : Option Value) w2 f2_z j2 b2, b2.1 ≤ b.1 + 951 → b2.2 ≤ b.2 + 1006 → lwI w2 f2_z j2 X T ty im p B th pl (N + 1) → zR (zVg g Rm QQ hh nm 8 (some .boolean)) cL_law RL 2729 [some (.ref s), some (.ref X), some (.ref (X + 239)), some (.ref (X + 260)), some (.int iv), u5, u6, u7] [] (zM w2 f2_z j2) b2) : zR (zVg g Rm QQ hh nm 8 (some .boolean)) cL_law RL 650 [some (.ref s), some (.ref X), some (.ref (X + 239)), some (.ref (X + 260)), some (.int iv), u5, u6, u7] [] (zM w f j) b := by
  have hx := h_z.1.1
  have hX := shX_k hx
  have hO := h_z.1.2.2.2.1
  have hs := h_z.1.2.2.2.2.1
  have ht := h_z.1.2.2.2.2.2.1
  have hw := tb_wf ht
  have hS2 := h_z.1.2.1
  have hz := h_z.1.2.2.1
  refine r_aloadR1 dL_law_650 ?_
  refine r_aloadR0 dL_law_651 ?_
  refine r_iload4 dL_law_652 ?_
  refine n_iconst dL_law_654 (by decide) (fun r654 e654 => ?_)
  refine n_iadd dL_law_655 (by omega) (fun r655 e655 => ?_)
  refine k_iald (k := i + 1) (v := .int (xs (i + 1))) hT_z (by omega) (by omega) (by omega) rfl dL_law_656 ?_
  refine r_aloadR3 dL_law_657 ?_
  refine q_callW (As := [.ref X, .int (xs (i + 1)), .ref (X + 260)]) (rest := []) zw_beneath dL_law_658 rfl rfl (by decide) (by first | exact Nat.le_of_ble_eq_true rfl | omega | (dsimp only; omega)) (by first | exact Nat.le_of_ble_eq_true rfl | omega | (dsimp only; omega)) (by first | exact Nat.le_of_ble_eq_true rfl | omega | (dsimp only; omega)) (by first | exact Nat.le_of_ble_eq_true rfl | omega | (dsimp only; omega)) (w_beneath G hX (s_X11_beneath G hx ht  (fun hc0 f1_z hq n hn => ⟨rfl, fun k1_z ek => ?_⟩) (fun hc0 rc f1_z ec hq => ⟨rc, w, f1_z, j, rfl, rfl, hO.1, hO.2, fun k1_z y1 ek ey => ?_⟩)))
  · have hI1 := lwI_s (n := n) (lwI_cq h_z hq) hn
    rw [show zsS (zM w f1_z j) n = zM (zsS w n) f1_z j from rfl]
    have hs := hI1.1.2.2.2.2.1
    have hO := hI1.1.2.2.2.1
    refine r_istore5 dL_law_661 rfl ?_
    refine r_aloadR2 dL_law_663 ?_
    refine r_aloadR0 dL_law_664 ?_
    refine r_iload4 dL_law_665 ?_
    refine n_iconst dL_law_667 (by decide) (fun r667 e667 => ?_)
    refine n_iadd dL_law_668 (by omega) (fun r668 e668 => ?_)
    refine k_iald (k := i + 1) (v := .int (xs (i + 1))) hT_z (by omega) (by omega) (by omega) rfl dL_law_669 ?_
    refine q_callV1 zm_RL_173 dL_law_670 (shM_k hs) (by decide) rfl (by decide) (by first | exact Nat.le_of_ble_eq_true rfl | omega | (dsimp only; omega)) (by first | exact Nat.le_of_ble_eq_true rfl | omega | (dsimp only; omega)) (by first | exact Nat.le_of_ble_eq_true rfl | omega | (dsimp only; omega)) (by first | exact Nat.le_of_ble_eq_true rfl | omega | (dsimp only; omega)) (s_X12_beneath G hs hI1.2.1 hw (fun hy0 r6 f2_z o6 t6 => ?_) (fun hy0 r6 f2_z e6_z o6 t6 => ?_))
    · have hI2 := lwI_mq hI1 (qM_q (frM_su o6 (by decide) (by decide)))
      refine r_istore6 dL_law_673 rfl ?_
      refine r_aloadR2 dL_law_675 ?_
      refine q_callV0 zm_RL_151 dL_law_676 (shM_k hs) (by decide) rfl (by first | exact Nat.le_of_ble_eq_true rfl | omega | (dsimp only; omega)) (by first | exact Nat.le_of_ble_eq_true rfl | omega | (dsimp only; omega)) (by first | exact Nat.le_of_ble_eq_true rfl | omega | (dsimp only; omega)) (by first | exact Nat.le_of_ble_eq_true rfl | omega | (dsimp only; omega)) (by first | exact Nat.le_of_ble_eq_true rfl | omega | (dsimp only; omega)) (s_X12_thrown G hs (fun r7 e7_z => ?_))
      have e7i : r7.toInt = (f2_z (X + 239) 4).toInt := by rw [e7_z]
      refine r_iload5 dL_law_679 ?_
      refine t_iceq (t := 686) dL_law_681 (by decide) (fun h681 => ?_) (fun h681 => False.elim (by omega))
      refine r_iload5 dL_law_686 ?_
      refine t_ifne (t := 703) dL_law_688 (by decide) (fun h688 => ?_) (fun h688 => False.elim (by omega))
      refine r_goto (t := 2729) dL_law_703 (by decide) ?_
      refine kk _ _ _ _ _ _ _ ?_ ?_ (lwI_m hI2 (by omega))
      · first | omega | (dsimp only; omega)
      · first | omega | (dsimp only; omega)
    · exact False.elim (by omega)
  · have hI1 := lwI_o (y := y1) (lwI_cq h_z hq)
    have hs := hI1.1.2.2.2.2.1
    have hj1 : zu j (X + 260) 0 y1 (X + 260) 0 = y1 := zu_at
    obtain ⟨j1, hj⟩ : ∃ j9, j9 = zu j (X + 260) 0 y1 := ⟨_, rfl⟩
    rw [← hj] at hI1 hj1 ⊢
    refine r_istore5 dL_law_661 rfl ?_
    refine r_aloadR2 dL_law_663 ?_
    refine r_aloadR0 dL_law_664 ?_
    refine r_iload4 dL_law_665 ?_
    refine n_iconst dL_law_667 (by decide) (fun r667 e667 => ?_)
    refine n_iadd dL_law_668 (by omega) (fun r668 e668 => ?_)
    refine k_iald (k := i + 1) (v := .int (xs (i + 1))) hT_z (by omega) (by omega) (by omega) rfl dL_law_669 ?_
    refine q_callV1 zm_RL_173 dL_law_670 (shM_k hs) (by decide) rfl (by decide) (by first | exact Nat.le_of_ble_eq_true rfl | omega | (dsimp only; omega)) (by first | exact Nat.le_of_ble_eq_true rfl | omega | (dsimp only; omega)) (by first | exact Nat.le_of_ble_eq_true rfl | omega | (dsimp only; omega)) (by first | exact Nat.le_of_ble_eq_true rfl | omega | (dsimp only; omega)) (s_X12_beneath G hs hI1.2.1 hw (fun hy0 r6 f2_z o6 t6 => ?_) (fun hy0 r6 f2_z e6_z o6 t6 => ?_))
    · exact False.elim (by omega)
    · have hI2 := lwI_mq hI1 (qM_q (frM_su o6 (by decide) (by decide)))
      have hl2 : (j1 (X + 260) 0).toInt = y1.toInt := by rw [hj1]
      have he9 : rc.toInt = r6.toInt := by first | (rw [ec, e6_z]; done) | omega
      refine r_istore6 dL_law_673 rfl ?_
      refine r_aloadR2 dL_law_675 ?_
      refine q_callV0 zm_RL_151 dL_law_676 (shM_k hs) (by decide) rfl (by first | exact Nat.le_of_ble_eq_true rfl | omega | (dsimp only; omega)) (by first | exact Nat.le_of_ble_eq_true rfl | omega | (dsimp only; omega)) (by first | exact Nat.le_of_ble_eq_true rfl | omega | (dsimp only; omega)) (by first | exact Nat.le_of_ble_eq_true rfl | omega | (dsimp only; omega)) (by first | exact Nat.le_of_ble_eq_true rfl | omega | (dsimp only; omega)) (s_X12_thrown G hs (fun r7 e7_z => ?_))
      have e7i : r7.toInt = (f2_z (X + 239) 4).toInt := by rw [e7_z]
      refine r_iload5 dL_law_679 ?_
      refine t_iceq (t := 686) dL_law_681 (by decide) (fun h681 => ?_) (fun h681 => False.elim (by omega))
      refine r_iload5 dL_law_686 ?_
      refine t_ifne (t := 703) dL_law_688 (by decide) (fun h688 => False.elim (by omega)) (fun h688 => ?_)
      refine r_aloadR3 dL_law_691 ?_
      refine n_iconst dL_law_692 (by decide) (fun r692 e692 => ?_)
      refine m_lald (k := 0) (x := (j1 (X + 260) 0)) dL_law_693 hO.1 hO.2 (by omega) (by omega) (rfl) ?_
      refine r_iload6 dL_law_694 ?_
      refine n_i2l dL_law_696 (fun r696 e696 => ?_)
      refine n_lcmp dL_law_697 (fun r697 e697 => ?_)
      unfold zcmp at e697
      refine t_ifeq (t := 703) dL_law_698 (by decide) (fun h698 => ?_) (fun h698 => False.elim (by omega))
      refine r_goto (t := 2729) dL_law_703 (by decide) ?_
      refine kk _ _ _ _ _ _ _ ?_ ?_ (lwI_m hI2 (by omega))
      · first | omega | (dsimp only; omega)
      · first | omega | (dsimp only; omega)
set_option maxHeartbeats 4000000 in
set_option maxRecDepth 100000 in
theorem lc_8 {g : zGT} {Rm : Room} {QQ : List Frame → Array Value → State → State → Prop} {hh : List (Nat × Nat × Nat × Nat)} {nm : String} {w : zW} {f : Nat → Nat → Int32} {j : Nat → Nat → Int64} {s X L i N : Nat} {xs : Nat → Int32} {T : zTb} {ty : Nat → zTy} {im : Nat → Option zTb} {p : Nat} {B : Nat → Nat} {th pl : Int} {iv : Int32} {u5 u6 u7 : Option Value} {b : Nat × Nat} (G : zGok g) (hfr : 2048 ≤ Rm.frames) (hlo : 84000 ≤ Rm.locals) (hb1 : b.1 + 951 ≤ Rm.cells) (hb2 : b.2 + 1006 ≤ Rm.slots) (hT_z : ∀ U, g.2.2.2 U → va_T .int s L (fun k => .int (xs k)) (zA g.2.2.1) U U.heap) (hi_z : iv.toInt = (i : Nat)) (hiL : i + 6 ≤ L) (hL : L ≤ 3072) (h_z : lwI w f j X T ty im p B th pl N) (hN_z : N < 1900000000)  (kk : ∀ (u5 u6 u7 : Option Value) w2 f2_z j2 b2, b2.1 ≤ b.1 + 951 → b2.2 ≤ b.2 + 1006 → lwI w2 f2_z j2 X T ty im p B th pl (N + 1) → zR (zVg g Rm QQ hh nm 8 (some .boolean)) cL_law RL 2729 [some (.ref s), some (.ref X), some (.ref (X + 239)), some (.ref (X + 260)), some (.int iv), u5, u6, u7] [] (zM w2 f2_z j2) b2) : zR (zVg g Rm QQ hh nm 8 (some .boolean)) cL_law RL 706 [some (.ref s), some (.ref X), some (.ref (X + 239)), some (.ref (X + 260)), some (.int iv), u5, u6, u7] [] (zM w f j) b := by
  have hx := h_z.1.1
  have hX := shX_k hx
  have hO := h_z.1.2.2.2.1
  have hs := h_z.1.2.2.2.2.1
  have ht := h_z.1.2.2.2.2.2.1
  have hw := tb_wf ht
  have hS2 := h_z.1.2.1
  have hz := h_z.1.2.2.1
  refine r_aloadR1 dL_law_706 ?_
  refine r_aloadR0 dL_law_707 ?_
  refine r_iload4 dL_law_708 ?_
  refine n_iconst dL_law_710 (by decide) (fun r710 e710 => ?_)
  refine n_iadd dL_law_711 (by omega) (fun r711 e711 => ?_)
  refine k_iald (k := i + 1) (v := .int (xs (i + 1))) hT_z (by omega) (by omega) (by omega) rfl dL_law_712 ?_
  refine r_aloadR3 dL_law_713 ?_
  refine q_callW (As := [.ref X, .int (xs (i + 1)), .ref (X + 260)]) (rest := []) zw_crease dL_law_714 rfl rfl (by decide) (by first | exact Nat.le_of_ble_eq_true rfl | omega | (dsimp only; omega)) (by first | exact Nat.le_of_ble_eq_true rfl | omega | (dsimp only; omega)) (by first | exact Nat.le_of_ble_eq_true rfl | omega | (dsimp only; omega)) (by first | exact Nat.le_of_ble_eq_true rfl | omega | (dsimp only; omega)) (w_crease G hX (s_X11_crease G hx ht  (fun hc0 n hn => ⟨rfl, fun k1_z ek => ?_⟩) (fun hc0 rc f1_z ec hq => ⟨rc, w, f1_z, j, rfl, rfl, hO.1, hO.2, fun k1_z y1 ek ey => ?_⟩)))
  · have hI1 := lwI_s (n := n) h_z hn
    rw [show zsS (zM w f j) n = zM (zsS w n) f j from rfl]
    have hs := hI1.1.2.2.2.2.1
    have hO := hI1.1.2.2.2.1
    refine r_istore5 dL_law_717 rfl ?_
    refine r_aloadR2 dL_law_719 ?_
    refine r_aloadR0 dL_law_720 ?_
    refine r_iload4 dL_law_721 ?_
    refine n_iconst dL_law_723 (by decide) (fun r723 e723 => ?_)
    refine n_iadd dL_law_724 (by omega) (fun r724 e724 => ?_)
    refine k_iald (k := i + 1) (v := .int (xs (i + 1))) hT_z (by omega) (by omega) (by omega) rfl dL_law_725 ?_
    refine q_callV1 zm_RL_176 dL_law_726 (shM_k hs) (by decide) rfl (by decide) (by first | exact Nat.le_of_ble_eq_true rfl | omega | (dsimp only; omega)) (by first | exact Nat.le_of_ble_eq_true rfl | omega | (dsimp only; omega)) (by first | exact Nat.le_of_ble_eq_true rfl | omega | (dsimp only; omega)) (by first | exact Nat.le_of_ble_eq_true rfl | omega | (dsimp only; omega)) (s_X12_crease G hs hI1.2.1 hw (fun hy0 r6 f2_z o6 t6 => ?_) (fun hy0 r6 f2_z e6_z o6 t6 => ?_))
    · have hI2 := lwI_mq hI1 (qM_q (frM_su o6 (by decide) (by decide)))
      refine r_istore6 dL_law_729 rfl ?_
      refine r_aloadR2 dL_law_731 ?_
      refine q_callV0 zm_RL_151 dL_law_732 (shM_k hs) (by decide) rfl (by first | exact Nat.le_of_ble_eq_true rfl | omega | (dsimp only; omega)) (by first | exact Nat.le_of_ble_eq_true rfl | omega | (dsimp only; omega)) (by first | exact Nat.le_of_ble_eq_true rfl | omega | (dsimp only; omega)) (by first | exact Nat.le_of_ble_eq_true rfl | omega | (dsimp only; omega)) (by first | exact Nat.le_of_ble_eq_true rfl | omega | (dsimp only; omega)) (s_X12_thrown G hs (fun r7 e7_z => ?_))
      have e7i : r7.toInt = (f2_z (X + 239) 4).toInt := by rw [e7_z]
      refine r_iload5 dL_law_735 ?_
      refine t_iceq (t := 742) dL_law_737 (by decide) (fun h737 => ?_) (fun h737 => False.elim (by omega))
      refine r_iload5 dL_law_742 ?_
      refine t_ifne (t := 759) dL_law_744 (by decide) (fun h744 => ?_) (fun h744 => False.elim (by omega))
      refine r_goto (t := 2729) dL_law_759 (by decide) ?_
      refine kk _ _ _ _ _ _ _ ?_ ?_ (lwI_m hI2 (by omega))
      · first | omega | (dsimp only; omega)
      · first | omega | (dsimp only; omega)
    · exact False.elim (by omega)
  · have hI1 := lwI_o (y := y1) (lwI_cq h_z hq)
    have hs := hI1.1.2.2.2.2.1
    have hj1 : zu j (X + 260) 0 y1 (X + 260) 0 = y1 := zu_at
    obtain ⟨j1, hj⟩ : ∃ j9, j9 = zu j (X + 260) 0 y1 := ⟨_, rfl⟩
    rw [← hj] at hI1 hj1 ⊢
    refine r_istore5 dL_law_717 rfl ?_
    refine r_aloadR2 dL_law_719 ?_
    refine r_aloadR0 dL_law_720 ?_
    refine r_iload4 dL_law_721 ?_
    refine n_iconst dL_law_723 (by decide) (fun r723 e723 => ?_)
    refine n_iadd dL_law_724 (by omega) (fun r724 e724 => ?_)
    refine k_iald (k := i + 1) (v := .int (xs (i + 1))) hT_z (by omega) (by omega) (by omega) rfl dL_law_725 ?_
    refine q_callV1 zm_RL_176 dL_law_726 (shM_k hs) (by decide) rfl (by decide) (by first | exact Nat.le_of_ble_eq_true rfl | omega | (dsimp only; omega)) (by first | exact Nat.le_of_ble_eq_true rfl | omega | (dsimp only; omega)) (by first | exact Nat.le_of_ble_eq_true rfl | omega | (dsimp only; omega)) (by first | exact Nat.le_of_ble_eq_true rfl | omega | (dsimp only; omega)) (s_X12_crease G hs hI1.2.1 hw (fun hy0 r6 f2_z o6 t6 => ?_) (fun hy0 r6 f2_z e6_z o6 t6 => ?_))
    · exact False.elim (by omega)
    · have hI2 := lwI_mq hI1 (qM_q (frM_su o6 (by decide) (by decide)))
      have hl2 : (j1 (X + 260) 0).toInt = y1.toInt := by rw [hj1]
      have he9 : rc.toInt = r6.toInt := by first | (rw [ec, e6_z]; done) | omega
      refine r_istore6 dL_law_729 rfl ?_
      refine r_aloadR2 dL_law_731 ?_
      refine q_callV0 zm_RL_151 dL_law_732 (shM_k hs) (by decide) rfl (by first | exact Nat.le_of_ble_eq_true rfl | omega | (dsimp only; omega)) (by first | exact Nat.le_of_ble_eq_true rfl | omega | (dsimp only; omega)) (by first | exact Nat.le_of_ble_eq_true rfl | omega | (dsimp only; omega)) (by first | exact Nat.le_of_ble_eq_true rfl | omega | (dsimp only; omega)) (by first | exact Nat.le_of_ble_eq_true rfl | omega | (dsimp only; omega)) (s_X12_thrown G hs (fun r7 e7_z => ?_))
      have e7i : r7.toInt = (f2_z (X + 239) 4).toInt := by rw [e7_z]
      refine r_iload5 dL_law_735 ?_
      refine t_iceq (t := 742) dL_law_737 (by decide) (fun h737 => ?_) (fun h737 => False.elim (by omega))
      refine r_iload5 dL_law_742 ?_
      refine t_ifne (t := 759) dL_law_744 (by decide) (fun h744 => False.elim (by omega)) (fun h744 => ?_)
      refine r_aloadR3 dL_law_747 ?_
      refine n_iconst dL_law_748 (by decide) (fun r748 e748 => ?_)
      refine m_lald (k := 0) (x := (j1 (X + 260) 0)) dL_law_749 hO.1 hO.2 (by omega) (by omega) (rfl) ?_
      refine r_iload6 dL_law_750 ?_
      refine n_i2l dL_law_752 (fun r752 e752 => ?_)
      refine n_lcmp dL_law_753 (fun r753 e753 => ?_)
      unfold zcmp at e753
      refine t_ifeq (t := 759) dL_law_754 (by decide) (fun h754 => ?_) (fun h754 => False.elim (by omega))
      refine r_goto (t := 2729) dL_law_759 (by decide) ?_
      refine kk _ _ _ _ _ _ _ ?_ ?_ (lwI_m hI2 (by omega))
      · first | omega | (dsimp only; omega)
      · first | omega | (dsimp only; omega)
set_option maxHeartbeats 4000000 in
set_option maxRecDepth 100000 in
theorem lc_9 {g : zGT} {Rm : Room} {QQ : List Frame → Array Value → State → State → Prop} {hh : List (Nat × Nat × Nat × Nat)} {nm : String} {w : zW} {f : Nat → Nat → Int32} {j : Nat → Nat → Int64} {s X L i N : Nat} {xs : Nat → Int32} {T : zTb} {ty : Nat → zTy} {im : Nat → Option zTb} {p : Nat} {B : Nat → Nat} {th pl : Int} {iv : Int32} {u5 u6 u7 : Option Value} {b : Nat × Nat} (G : zGok g) (hfr : 2048 ≤ Rm.frames) (hlo : 84000 ≤ Rm.locals) (hb1 : b.1 + 951 ≤ Rm.cells) (hb2 : b.2 + 1006 ≤ Rm.slots) (hT_z : ∀ U, g.2.2.2 U → va_T .int s L (fun k => .int (xs k)) (zA g.2.2.1) U U.heap) (hi_z : iv.toInt = (i : Nat)) (hiL : i + 6 ≤ L) (hL : L ≤ 3072) (h_z : lwI w f j X T ty im p B th pl N) (hN_z : N < 1900000000)  (kk : ∀ (u5 u6 u7 : Option Value) w2 f2_z j2 b2, b2.1 ≤ b.1 + 951 → b2.2 ≤ b.2 + 1006 → lwI w2 f2_z j2 X T ty im p B th pl (N + 1) → zR (zVg g Rm QQ hh nm 8 (some .boolean)) cL_law RL 2729 [some (.ref s), some (.ref X), some (.ref (X + 239)), some (.ref (X + 260)), some (.int iv), u5, u6, u7] [] (zM w2 f2_z j2) b2) : zR (zVg g Rm QQ hh nm 8 (some .boolean)) cL_law RL 762 [some (.ref s), some (.ref X), some (.ref (X + 239)), some (.ref (X + 260)), some (.int iv), u5, u6, u7] [] (zM w f j) b := by
  have hx := h_z.1.1
  have hX := shX_k hx
  have hO := h_z.1.2.2.2.1
  have hs := h_z.1.2.2.2.2.1
  have ht := h_z.1.2.2.2.2.2.1
  have hw := tb_wf ht
  have hS2 := h_z.1.2.1
  have hz := h_z.1.2.2.1
  refine r_aloadR1 dL_law_762 ?_
  refine r_aloadR0 dL_law_763 ?_
  refine r_iload4 dL_law_764 ?_
  refine n_iconst dL_law_766 (by decide) (fun r766 e766 => ?_)
  refine n_iadd dL_law_767 (by omega) (fun r767 e767 => ?_)
  refine k_iald (k := i + 1) (v := .int (xs (i + 1))) hT_z (by omega) (by omega) (by omega) rfl dL_law_768 ?_
  refine r_aloadR3 dL_law_769 ?_
  refine q_callW (As := [.ref X, .int (xs (i + 1)), .ref (X + 260)]) (rest := []) zw_folded dL_law_770 rfl rfl (by decide) (by first | exact Nat.le_of_ble_eq_true rfl | omega | (dsimp only; omega)) (by first | exact Nat.le_of_ble_eq_true rfl | omega | (dsimp only; omega)) (by first | exact Nat.le_of_ble_eq_true rfl | omega | (dsimp only; omega)) (by first | exact Nat.le_of_ble_eq_true rfl | omega | (dsimp only; omega)) (w_folded G hX (s_X11_folded G hx ht  (fun hc0 n hn => ⟨rfl, fun k1_z ek => ?_⟩) (fun hc0 rc ec => ⟨rc, w, f, j, rfl, rfl, hO.1, hO.2, fun k1_z y1 ek ey => ?_⟩)))
  · have hI1 := lwI_s (n := n) h_z hn
    rw [show zsS (zM w f j) n = zM (zsS w n) f j from rfl]
    have hs := hI1.1.2.2.2.2.1
    have hO := hI1.1.2.2.2.1
    refine r_istore5 dL_law_773 rfl ?_
    refine r_aloadR2 dL_law_775 ?_
    refine r_aloadR0 dL_law_776 ?_
    refine r_iload4 dL_law_777 ?_
    refine n_iconst dL_law_779 (by decide) (fun r779 e779 => ?_)
    refine n_iadd dL_law_780 (by omega) (fun r780 e780 => ?_)
    refine k_iald (k := i + 1) (v := .int (xs (i + 1))) hT_z (by omega) (by omega) (by omega) rfl dL_law_781 ?_
    refine q_callV1 zm_RL_179 dL_law_782 (shM_k hs) (by decide) rfl (by decide) (by first | exact Nat.le_of_ble_eq_true rfl | omega | (dsimp only; omega)) (by first | exact Nat.le_of_ble_eq_true rfl | omega | (dsimp only; omega)) (by first | exact Nat.le_of_ble_eq_true rfl | omega | (dsimp only; omega)) (by first | exact Nat.le_of_ble_eq_true rfl | omega | (dsimp only; omega)) (s_X12_folded G hs hI1.2.1 hw (fun hy0 r6 f2_z o6 t6 => ?_) (fun hy0 r6 f2_z e6_z o6 t6 => ?_))
    · have hI2 := lwI_mq hI1 (qM_q (frM_su o6 (by decide) (by decide)))
      refine r_istore6 dL_law_785 rfl ?_
      refine r_aloadR2 dL_law_787 ?_
      refine q_callV0 zm_RL_151 dL_law_788 (shM_k hs) (by decide) rfl (by first | exact Nat.le_of_ble_eq_true rfl | omega | (dsimp only; omega)) (by first | exact Nat.le_of_ble_eq_true rfl | omega | (dsimp only; omega)) (by first | exact Nat.le_of_ble_eq_true rfl | omega | (dsimp only; omega)) (by first | exact Nat.le_of_ble_eq_true rfl | omega | (dsimp only; omega)) (by first | exact Nat.le_of_ble_eq_true rfl | omega | (dsimp only; omega)) (s_X12_thrown G hs (fun r7 e7_z => ?_))
      have e7i : r7.toInt = (f2_z (X + 239) 4).toInt := by rw [e7_z]
      refine r_iload5 dL_law_791 ?_
      refine t_iceq (t := 798) dL_law_793 (by decide) (fun h793 => ?_) (fun h793 => False.elim (by omega))
      refine r_iload5 dL_law_798 ?_
      refine t_ifne (t := 815) dL_law_800 (by decide) (fun h800 => ?_) (fun h800 => False.elim (by omega))
      refine r_goto (t := 2729) dL_law_815 (by decide) ?_
      refine kk _ _ _ _ _ _ _ ?_ ?_ (lwI_m hI2 (by omega))
      · first | omega | (dsimp only; omega)
      · first | omega | (dsimp only; omega)
    · exact False.elim (by omega)
  · have hI1 := lwI_o (y := y1) h_z
    have hs := hI1.1.2.2.2.2.1
    have hj1 : zu j (X + 260) 0 y1 (X + 260) 0 = y1 := zu_at
    obtain ⟨j1, hj⟩ : ∃ j9, j9 = zu j (X + 260) 0 y1 := ⟨_, rfl⟩
    rw [← hj] at hI1 hj1 ⊢
    refine r_istore5 dL_law_773 rfl ?_
    refine r_aloadR2 dL_law_775 ?_
    refine r_aloadR0 dL_law_776 ?_
    refine r_iload4 dL_law_777 ?_
    refine n_iconst dL_law_779 (by decide) (fun r779 e779 => ?_)
    refine n_iadd dL_law_780 (by omega) (fun r780 e780 => ?_)
    refine k_iald (k := i + 1) (v := .int (xs (i + 1))) hT_z (by omega) (by omega) (by omega) rfl dL_law_781 ?_
    refine q_callV1 zm_RL_179 dL_law_782 (shM_k hs) (by decide) rfl (by decide) (by first | exact Nat.le_of_ble_eq_true rfl | omega | (dsimp only; omega)) (by first | exact Nat.le_of_ble_eq_true rfl | omega | (dsimp only; omega)) (by first | exact Nat.le_of_ble_eq_true rfl | omega | (dsimp only; omega)) (by first | exact Nat.le_of_ble_eq_true rfl | omega | (dsimp only; omega)) (s_X12_folded G hs hI1.2.1 hw (fun hy0 r6 f2_z o6 t6 => ?_) (fun hy0 r6 f2_z e6_z o6 t6 => ?_))
    · exact False.elim (by omega)
    · have hI2 := lwI_mq hI1 (qM_q (frM_su o6 (by decide) (by decide)))
      have hl2 : (j1 (X + 260) 0).toInt = y1.toInt := by rw [hj1]
      have he9 : rc.toInt = r6.toInt := by first | (rw [ec, e6_z]; done) | omega
      refine r_istore6 dL_law_785 rfl ?_
      refine r_aloadR2 dL_law_787 ?_
      refine q_callV0 zm_RL_151 dL_law_788 (shM_k hs) (by decide) rfl (by first | exact Nat.le_of_ble_eq_true rfl | omega | (dsimp only; omega)) (by first | exact Nat.le_of_ble_eq_true rfl | omega | (dsimp only; omega)) (by first | exact Nat.le_of_ble_eq_true rfl | omega | (dsimp only; omega)) (by first | exact Nat.le_of_ble_eq_true rfl | omega | (dsimp only; omega)) (by first | exact Nat.le_of_ble_eq_true rfl | omega | (dsimp only; omega)) (s_X12_thrown G hs (fun r7 e7_z => ?_))
      have e7i : r7.toInt = (f2_z (X + 239) 4).toInt := by rw [e7_z]
      refine r_iload5 dL_law_791 ?_
      refine t_iceq (t := 798) dL_law_793 (by decide) (fun h793 => ?_) (fun h793 => False.elim (by omega))
      refine r_iload5 dL_law_798 ?_
      refine t_ifne (t := 815) dL_law_800 (by decide) (fun h800 => False.elim (by omega)) (fun h800 => ?_)
      refine r_aloadR3 dL_law_803 ?_
      refine n_iconst dL_law_804 (by decide) (fun r804 e804 => ?_)
      refine m_lald (k := 0) (x := (j1 (X + 260) 0)) dL_law_805 hO.1 hO.2 (by omega) (by omega) (rfl) ?_
      refine r_iload6 dL_law_806 ?_
      refine n_i2l dL_law_808 (fun r808 e808 => ?_)
      refine n_lcmp dL_law_809 (fun r809 e809 => ?_)
      unfold zcmp at e809
      refine t_ifeq (t := 815) dL_law_810 (by decide) (fun h810 => ?_) (fun h810 => False.elim (by omega))
      refine r_goto (t := 2729) dL_law_815 (by decide) ?_
      refine kk _ _ _ _ _ _ _ ?_ ?_ (lwI_m hI2 (by omega))
      · first | omega | (dsimp only; omega)
      · first | omega | (dsimp only; omega)
set_option maxHeartbeats 4000000 in
set_option maxRecDepth 100000 in
theorem lc_12 {g : zGT} {Rm : Room} {QQ : List Frame → Array Value → State → State → Prop} {hh : List (Nat × Nat × Nat × Nat)} {nm : String} {w : zW} {f : Nat → Nat → Int32} {j : Nat → Nat → Int64} {s X L i N : Nat} {xs : Nat → Int32} {T : zTb} {ty : Nat → zTy} {im : Nat → Option zTb} {p : Nat} {B : Nat → Nat} {th pl : Int} {iv : Int32} {u5 u6 u7 : Option Value} {b : Nat × Nat} (G : zGok g) (hfr : 2048 ≤ Rm.frames) (hlo : 84000 ≤ Rm.locals) (hb1 : b.1 + 951 ≤ Rm.cells) (hb2 : b.2 + 1006 ≤ Rm.slots) (hT_z : ∀ U, g.2.2.2 U → va_T .int s L (fun k => .int (xs k)) (zA g.2.2.1) U U.heap) (hi_z : iv.toInt = (i : Nat)) (hiL : i + 6 ≤ L) (hL : L ≤ 3072) (h_z : lwI w f j X T ty im p B th pl N) (hN_z : N < 1900000000)  (kk : ∀ (u5 u6 u7 : Option Value) w2 f2_z j2 b2, b2.1 ≤ b.1 + 951 → b2.2 ≤ b.2 + 1006 → lwI w2 f2_z j2 X T ty im p B th pl (N + 1) → zR (zVg g Rm QQ hh nm 8 (some .boolean)) cL_law RL 2729 [some (.ref s), some (.ref X), some (.ref (X + 239)), some (.ref (X + 260)), some (.int iv), u5, u6, u7] [] (zM w2 f2_z j2) b2) : zR (zVg g Rm QQ hh nm 8 (some .boolean)) cL_law RL 844 [some (.ref s), some (.ref X), some (.ref (X + 239)), some (.ref (X + 260)), some (.int iv), u5, u6, u7] [] (zM w f j) b := by
  have hx := h_z.1.1
  have hX := shX_k hx
  have hO := h_z.1.2.2.2.1
  have hs := h_z.1.2.2.2.2.1
  have ht := h_z.1.2.2.2.2.2.1
  have hw := tb_wf ht
  have hS2 := h_z.1.2.1
  have hz := h_z.1.2.2.1
  refine r_aloadR1 dL_law_844 ?_
  refine r_aloadR0 dL_law_845 ?_
  refine r_iload4 dL_law_846 ?_
  refine n_iconst dL_law_848 (by decide) (fun r848 e848 => ?_)
  refine n_iadd dL_law_849 (by omega) (fun r849 e849 => ?_)
  refine k_iald (k := i + 1) (v := .int (xs (i + 1))) hT_z (by omega) (by omega) (by omega) rfl dL_law_850 ?_
  refine r_aloadR3 dL_law_851 ?_
  refine q_callW (As := [.ref X, .int (xs (i + 1)), .ref (X + 260)]) (rest := []) zw_likes dL_law_852 rfl rfl (by decide) (by first | exact Nat.le_of_ble_eq_true rfl | omega | (dsimp only; omega)) (by first | exact Nat.le_of_ble_eq_true rfl | omega | (dsimp only; omega)) (by first | exact Nat.le_of_ble_eq_true rfl | omega | (dsimp only; omega)) (by first | exact Nat.le_of_ble_eq_true rfl | omega | (dsimp only; omega)) (w_likes G hX (s_X11_likes G hx ht  (fun hc0 n hn => ⟨rfl, fun k1_z ek => ?_⟩) (fun hc0 rc f1_z ec hq => ⟨rc, w, f1_z, j, rfl, rfl, hO.1, hO.2, fun k1_z y1 ek ey => ?_⟩)))
  · have hI1 := lwI_s (n := n) h_z hn
    rw [show zsS (zM w f j) n = zM (zsS w n) f j from rfl]
    have hs := hI1.1.2.2.2.2.1
    have hO := hI1.1.2.2.2.1
    refine r_istore5 dL_law_855 rfl ?_
    refine r_aloadR2 dL_law_857 ?_
    refine r_aloadR0 dL_law_858 ?_
    refine r_iload4 dL_law_859 ?_
    refine n_iconst dL_law_861 (by decide) (fun r861 e861 => ?_)
    refine n_iadd dL_law_862 (by omega) (fun r862 e862 => ?_)
    refine k_iald (k := i + 1) (v := .int (xs (i + 1))) hT_z (by omega) (by omega) (by omega) rfl dL_law_863 ?_
    refine q_callV1 zm_RL_191 dL_law_864 (shM_k hs) (by decide) rfl (by decide) (by first | exact Nat.le_of_ble_eq_true rfl | omega | (dsimp only; omega)) (by first | exact Nat.le_of_ble_eq_true rfl | omega | (dsimp only; omega)) (by first | exact Nat.le_of_ble_eq_true rfl | omega | (dsimp only; omega)) (by first | exact Nat.le_of_ble_eq_true rfl | omega | (dsimp only; omega)) (s_X12_likes G hs hI1.2.1 hw (fun hy0 r6 f2_z o6 t6 => ?_) (fun hy0 r6 f2_z e6_z o6 t6 => ?_))
    · have hI2 := lwI_mq hI1 (qM_q (frM_su o6 (by decide) (by decide)))
      refine r_istore6 dL_law_867 rfl ?_
      refine r_aloadR2 dL_law_869 ?_
      refine q_callV0 zm_RL_151 dL_law_870 (shM_k hs) (by decide) rfl (by first | exact Nat.le_of_ble_eq_true rfl | omega | (dsimp only; omega)) (by first | exact Nat.le_of_ble_eq_true rfl | omega | (dsimp only; omega)) (by first | exact Nat.le_of_ble_eq_true rfl | omega | (dsimp only; omega)) (by first | exact Nat.le_of_ble_eq_true rfl | omega | (dsimp only; omega)) (by first | exact Nat.le_of_ble_eq_true rfl | omega | (dsimp only; omega)) (s_X12_thrown G hs (fun r7 e7_z => ?_))
      have e7i : r7.toInt = (f2_z (X + 239) 4).toInt := by rw [e7_z]
      refine r_iload5 dL_law_873 ?_
      refine t_iceq (t := 880) dL_law_875 (by decide) (fun h875 => ?_) (fun h875 => False.elim (by omega))
      refine r_iload5 dL_law_880 ?_
      refine t_ifne (t := 897) dL_law_882 (by decide) (fun h882 => ?_) (fun h882 => False.elim (by omega))
      refine r_goto (t := 2729) dL_law_897 (by decide) ?_
      refine kk _ _ _ _ _ _ _ ?_ ?_ (lwI_m hI2 (by omega))
      · first | omega | (dsimp only; omega)
      · first | omega | (dsimp only; omega)
    · exact False.elim (by omega)
  · have hI1 := lwI_o (y := y1) (lwI_cq h_z hq)
    have hs := hI1.1.2.2.2.2.1
    have hj1 : zu j (X + 260) 0 y1 (X + 260) 0 = y1 := zu_at
    obtain ⟨j1, hj⟩ : ∃ j9, j9 = zu j (X + 260) 0 y1 := ⟨_, rfl⟩
    rw [← hj] at hI1 hj1 ⊢
    refine r_istore5 dL_law_855 rfl ?_
    refine r_aloadR2 dL_law_857 ?_
    refine r_aloadR0 dL_law_858 ?_
    refine r_iload4 dL_law_859 ?_
    refine n_iconst dL_law_861 (by decide) (fun r861 e861 => ?_)
    refine n_iadd dL_law_862 (by omega) (fun r862 e862 => ?_)
    refine k_iald (k := i + 1) (v := .int (xs (i + 1))) hT_z (by omega) (by omega) (by omega) rfl dL_law_863 ?_
    refine q_callV1 zm_RL_191 dL_law_864 (shM_k hs) (by decide) rfl (by decide) (by first | exact Nat.le_of_ble_eq_true rfl | omega | (dsimp only; omega)) (by first | exact Nat.le_of_ble_eq_true rfl | omega | (dsimp only; omega)) (by first | exact Nat.le_of_ble_eq_true rfl | omega | (dsimp only; omega)) (by first | exact Nat.le_of_ble_eq_true rfl | omega | (dsimp only; omega)) (s_X12_likes G hs hI1.2.1 hw (fun hy0 r6 f2_z o6 t6 => ?_) (fun hy0 r6 f2_z e6_z o6 t6 => ?_))
    · exact False.elim (by omega)
    · have hI2 := lwI_mq hI1 (qM_q (frM_su o6 (by decide) (by decide)))
      have hl2 : (j1 (X + 260) 0).toInt = y1.toInt := by rw [hj1]
      have he9 : rc.toInt = r6.toInt := by first | (rw [ec, e6_z]; done) | omega
      refine r_istore6 dL_law_867 rfl ?_
      refine r_aloadR2 dL_law_869 ?_
      refine q_callV0 zm_RL_151 dL_law_870 (shM_k hs) (by decide) rfl (by first | exact Nat.le_of_ble_eq_true rfl | omega | (dsimp only; omega)) (by first | exact Nat.le_of_ble_eq_true rfl | omega | (dsimp only; omega)) (by first | exact Nat.le_of_ble_eq_true rfl | omega | (dsimp only; omega)) (by first | exact Nat.le_of_ble_eq_true rfl | omega | (dsimp only; omega)) (by first | exact Nat.le_of_ble_eq_true rfl | omega | (dsimp only; omega)) (s_X12_thrown G hs (fun r7 e7_z => ?_))
      have e7i : r7.toInt = (f2_z (X + 239) 4).toInt := by rw [e7_z]
      refine r_iload5 dL_law_873 ?_
      refine t_iceq (t := 880) dL_law_875 (by decide) (fun h875 => ?_) (fun h875 => False.elim (by omega))
      refine r_iload5 dL_law_880 ?_
      refine t_ifne (t := 897) dL_law_882 (by decide) (fun h882 => False.elim (by omega)) (fun h882 => ?_)
      refine r_aloadR3 dL_law_885 ?_
      refine n_iconst dL_law_886 (by decide) (fun r886 e886 => ?_)
      refine m_lald (k := 0) (x := (j1 (X + 260) 0)) dL_law_887 hO.1 hO.2 (by omega) (by omega) (rfl) ?_
      refine r_iload6 dL_law_888 ?_
      refine n_i2l dL_law_890 (fun r890 e890 => ?_)
      refine n_lcmp dL_law_891 (fun r891 e891 => ?_)
      unfold zcmp at e891
      refine t_ifeq (t := 897) dL_law_892 (by decide) (fun h892 => ?_) (fun h892 => False.elim (by omega))
      refine r_goto (t := 2729) dL_law_897 (by decide) ?_
      refine kk _ _ _ _ _ _ _ ?_ ?_ (lwI_m hI2 (by omega))
      · first | omega | (dsimp only; omega)
      · first | omega | (dsimp only; omega)
