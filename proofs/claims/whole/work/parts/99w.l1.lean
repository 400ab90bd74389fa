/-! the law: the cases -/
theorem q_callW {g : zGT} {Rm : Room} {QQ : List Frame → Array Value → State → State → Prop} {hh : List (Nat × Nat × Nat × Nat)} {nm : String} {nL : Nat} {ret : Option FieldType} {cd : ByteArray} {ow : String} {pc : Nat} {ls : List (Option Value)} {st : List Value} {w : zW} {b : Nat × Nat} {ix n d2 : Nat} {y2 : MethodName} {cd2 : ByteArray} {nL2 : Nat} {ret2 : Option FieldType} {hh2 : List (Nat × Nat × Nat × Nat)} {As rest : List Value} {b2 : Nat × Nat} (hl : zlW ow ix y2 cd2 nL2 ret2 hh2 n) (hd_z : decode cd pc = .ok (.invokestatic ix, 3)) (hst : st = As.reverse ++ rest) (hn : As.length = n) (hW : (rest.map fun v => v.category).sum ≤ 8) (hd2 : d2 + 1 ≤ Rm.frames) (hd3 : 64 * (d2 + 1) ≤ Rm.locals) (h1 : b.1 + b2.1 ≤ Rm.cells) (h2 : b.2 + b2.2 ≤ Rm.slots) (hM_z : zCW g d2 y2 cd2 nL2 ret2 hh2 As w b2 (fun r w2 => zR (zVg g Rm QQ hh nm nL ret) cd ow (pc + 3) ls (r.toList ++ rest) w2 (b.1 + b2.1, b.2 + b2.2))) : zR (zVg g Rm QQ hh nm nL ret) cd ow pc ls st w b := r_callW hl hd_z hM_z hst hn hW hd2 hd3 h1 h2 (fun _ _ h_z => h_z)
set_option maxHeartbeats 4000000 in
set_option maxRecDepth 100000 in
theorem lc_4 {g : zGT} {Rm : Room} {QQ : List Frame → Array Value → State → State → Prop} {hh : List (Nat × Nat × Nat × Nat)} {nm : String} {w : zW} {f : Nat → Nat → Int32} {j : Nat → Nat → Int64} {s X L i N : Nat} {xs : Nat → Int32} {T : zTb} {ty : Nat → zTy} {im : Nat → Option zTb} {p : Nat} {B : Nat → Nat} {th pl : Int} {iv : Int32} {u5 u6 u7 : Option Value} {b : Nat × Nat} (G : zGok g) (hfr : 2048 ≤ Rm.frames) (hlo : 84000 ≤ Rm.locals) (hb1 : b.1 + 951 ≤ Rm.cells) (hb2 : b.2 + 1006 ≤ Rm.slots) (hT_z : ∀ U, g.2.2.2 U → va_T .int s L (fun k => .int (xs k)) (zA g.2.2.1) U U.heap) (hi_z : iv.toInt = (i : Nat)) (hiL : i + 6 ≤ L) (hL : L ≤ 3072) (h_z : lwI w f j X T ty im p B th pl N)  (kk : ∀ (u5 u6 u7 : Option Value) w2 f2_z j2 b2, b2.1 ≤ b.1 + 951 → b2.2 ≤ b.2 + 1006 → lwI w2 f2_z j2 X T ty im p B th pl (N + 1) → zR (zVg g Rm QQ hh nm 8 (some .boolean)) cL_law RL 2729 [some (.ref s), some (.ref X), some (.ref (X + 240)), some (.ref (X + 261)), some (.int iv), u5, u6, u7] [] (zM w2 f2_z j2) b2) : zR (zVg g Rm QQ hh nm 8 (some .boolean)) cL_law RL 470 [some (.ref s), some (.ref X), some (.ref (X + 240)), some (.ref (X + 261)), some (.int iv), u5, u6, u7] [] (zM w f j) b := by
  have hx := h_z.1.1
  have hX := shX_k hx
  have hO := h_z.1.2.2.2.1
  have hs := h_z.1.2.2.2.2.1
  have ht := h_z.1.2.2.2.2.2.1
  have hw := tb_wf ht
  have hS2 := h_z.1.2.1
  have hz := h_z.1.2.2.1
  refine r_aloadR1 dL_law_470 ?_
  refine r_aloadR0 dL_law_471 ?_
  refine r_iload4 dL_law_472 ?_
  refine n_iconst dL_law_474 (by decide) (fun r474 e474 => ?_)
  refine n_iadd dL_law_475 (by omega) (fun r475 e475 => ?_)
  refine k_iald (k := i + 1) (v := .int (xs (i + 1))) hT_z (by omega) (by omega) (by omega) rfl dL_law_476 ?_
  refine r_aloadR3 dL_law_477 ?_
  refine q_callW (As := [.ref X, .int (xs (i + 1)), .ref (X + 261)]) (rest := []) zw_high dL_law_478 rfl rfl (by decide) (by first | exact Nat.le_of_ble_eq_true rfl | omega | (dsimp only; omega)) (by first | exact Nat.le_of_ble_eq_true rfl | omega | (dsimp only; omega)) (by first | exact Nat.le_of_ble_eq_true rfl | omega | (dsimp only; omega)) (by first | exact Nat.le_of_ble_eq_true rfl | omega | (dsimp only; omega)) (w_high G hX (s_X11_high G hx ht  (fun hc_z f1_z hq n hn => ⟨rfl, fun k1_z ek => ?_⟩) (fun hc_z rc f1_z ec hq => ⟨rc, w, f1_z, j, rfl, rfl, hO.1, hO.2, fun k1_z y1 ek ey => ?_⟩)))
  · have hI1 := lwI_s (n := n) (lwI_cq h_z hq) hn
    rw [show zsS (zM w f1_z j) n = zM (zsS w n) f1_z j from rfl]
    have hs := hI1.1.2.2.2.2.1
    have hO := hI1.1.2.2.2.1
    refine r_istore5 dL_law_481 rfl ?_
    refine r_aloadR2 dL_law_483 ?_
    refine r_aloadR0 dL_law_484 ?_
    refine r_iload4 dL_law_485 ?_
    refine n_iconst dL_law_487 (by decide) (fun r487 e487 => ?_)
    refine n_iadd dL_law_488 (by omega) (fun r488 e488 => ?_)
    refine k_iald (k := i + 1) (v := .int (xs (i + 1))) hT_z (by omega) (by omega) (by omega) rfl dL_law_489 ?_
    refine q_callV1 zm_RL_164 dL_law_490 (shM_k hs) (by decide) rfl (by decide) (by first | exact Nat.le_of_ble_eq_true rfl | omega | (dsimp only; omega)) (by first | exact Nat.le_of_ble_eq_true rfl | omega | (dsimp only; omega)) (by first | exact Nat.le_of_ble_eq_true rfl | omega | (dsimp only; omega)) (by first | exact Nat.le_of_ble_eq_true rfl | omega | (dsimp only; omega)) (s_X12_high G hs hI1.2.1 hw (fun hy r6 f2_z o6 t6 => ?_) (fun hy r6 f2_z e6_z o6 t6 => ?_))
    · have hI2 := lwI_mq hI1 (qM_q (frM_su o6 (by decide) (by decide)))
      refine r_istore6 dL_law_493 rfl ?_
      refine r_aloadR2 dL_law_495 ?_
      refine q_callV0 zm_RL_151 dL_law_496 (shM_k hs) (by decide) rfl (by first | exact Nat.le_of_ble_eq_true rfl | omega | (dsimp only; omega)) (by first | exact Nat.le_of_ble_eq_true rfl | omega | (dsimp only; omega)) (by first | exact Nat.le_of_ble_eq_true rfl | omega | (dsimp only; omega)) (by first | exact Nat.le_of_ble_eq_true rfl | omega | (dsimp only; omega)) (by first | exact Nat.le_of_ble_eq_true rfl | omega | (dsimp only; omega)) (s_X12_thrown G hs (fun r7 e7_z => ?_))
      have e7i : r7.toInt = (f2_z (X + 240) 4).toInt := by rw [e7_z]
      refine r_iload5 dL_law_499 ?_
      refine t_iceq (t := 506) dL_law_501 (by decide) (fun h501 => ?_) (fun h501 => False.elim (by omega))
      refine r_iload5 dL_law_506 ?_
      refine t_ifne (t := 523) dL_law_508 (by decide) (fun h508 => ?_) (fun h508 => False.elim (by omega))
      refine r_goto (t := 2729) dL_law_523 (by decide) ?_
      refine kk _ _ _ _ _ _ _ ?_ ?_ (lwI_m hI2 (by omega))
      · first | omega | (dsimp only; omega)
      · first | omega | (dsimp only; omega)
    · exact False.elim (by first | exact absurd hy hc_z | exact absurd hc_z hy | omega)
  · have hI1 := lwI_o (y := y1) (lwI_cq h_z hq)
    have hs := hI1.1.2.2.2.2.1
    have hj1 : zu j (X + 261) 0 y1 (X + 261) 0 = y1 := zu_at
    obtain ⟨j1, hj⟩ : ∃ j9, j9 = zu j (X + 261) 0 y1 := ⟨_, rfl⟩
    rw [← hj] at hI1 hj1 ⊢
    refine r_istore5 dL_law_481 rfl ?_
    refine r_aloadR2 dL_law_483 ?_
    refine r_aloadR0 dL_law_484 ?_
    refine r_iload4 dL_law_485 ?_
    refine n_iconst dL_law_487 (by decide) (fun r487 e487 => ?_)
    refine n_iadd dL_law_488 (by omega) (fun r488 e488 => ?_)
    refine k_iald (k := i + 1) (v := .int (xs (i + 1))) hT_z (by omega) (by omega) (by omega) rfl dL_law_489 ?_
    refine q_callV1 zm_RL_164 dL_law_490 (shM_k hs) (by decide) rfl (by decide) (by first | exact Nat.le_of_ble_eq_true rfl | omega | (dsimp only; omega)) (by first | exact Nat.le_of_ble_eq_true rfl | omega | (dsimp only; omega)) (by first | exact Nat.le_of_ble_eq_true rfl | omega | (dsimp only; omega)) (by first | exact Nat.le_of_ble_eq_true rfl | omega | (dsimp only; omega)) (s_X12_high G hs hI1.2.1 hw (fun hy r6 f2_z o6 t6 => ?_) (fun hy r6 f2_z e6_z o6 t6 => ?_))
    · exact False.elim (by first | exact absurd hy hc_z | exact absurd hc_z hy | omega)
    · have hI2 := lwI_mq hI1 (qM_q (frM_su o6 (by decide) (by decide)))
      have hl2 : (j1 (X + 261) 0).toInt = y1.toInt := by rw [hj1]
      refine r_istore6 dL_law_493 rfl ?_
      refine r_aloadR2 dL_law_495 ?_
      refine q_callV0 zm_RL_151 dL_law_496 (shM_k hs) (by decide) rfl (by first | exact Nat.le_of_ble_eq_true rfl | omega | (dsimp only; omega)) (by first | exact Nat.le_of_ble_eq_true rfl | omega | (dsimp only; omega)) (by first | exact Nat.le_of_ble_eq_true rfl | omega | (dsimp only; omega)) (by first | exact Nat.le_of_ble_eq_true rfl | omega | (dsimp only; omega)) (by first | exact Nat.le_of_ble_eq_true rfl | omega | (dsimp only; omega)) (s_X12_thrown G hs (fun r7 e7_z => ?_))
      have e7i : r7.toInt = (f2_z (X + 240) 4).toInt := by rw [e7_z]
      refine r_iload5 dL_law_499 ?_
      refine t_iceq (t := 506) dL_law_501 (by decide) (fun h501 => ?_) (fun h501 => False.elim (by omega))
      refine r_iload5 dL_law_506 ?_
      refine t_ifne (t := 523) dL_law_508 (by decide) (fun h508 => False.elim (by omega)) (fun h508 => ?_)
      refine r_aloadR3 dL_law_511 ?_
      refine n_iconst dL_law_512 (by decide) (fun r512 e512 => ?_)
      refine m_lald (k := 0) (x := (j1 (X + 261) 0)) dL_law_513 hO.1 hO.2 (by omega) (by omega) (rfl) ?_
      refine r_iload6 dL_law_514 ?_
      refine n_i2l dL_law_516 (fun r516 e516 => ?_)
      refine n_lcmp dL_law_517 (fun r517 e517 => ?_)
      unfold zcmp at e517
      refine t_ifeq (t := 523) dL_law_518 (by decide) (fun h518 => ?_) (fun h518 => False.elim (by omega))
      refine r_goto (t := 2729) dL_law_523 (by decide) ?_
      refine kk _ _ _ _ _ _ _ ?_ ?_ (lwI_m hI2 (by omega))
      · first | omega | (dsimp only; omega)
      · first | omega | (dsimp only; omega)
