/-! the law: the cases, sixth part -/
set_option maxHeartbeats 4000000 in
set_option maxRecDepth 100000 in
theorem lc_2 {g : zGT} {Rm : Room} {QQ : List Frame → Array Value → State → State → Prop} {hh : List (Nat × Nat × Nat × Nat)} {nm : String} {w : zW} {f : Nat → Nat → Int32} {j : Nat → Nat → Int64} {s X L i N : Nat} {xs : Nat → Int32} {T : zTb} {ty : Nat → zTy} {im : Nat → Option zTb} {p : Nat} {B : Nat → Nat} {th pl : Int} {iv : Int32} {u5 u6 u7 : Option Value} {b : Nat × Nat} (G : zGok g) (hfr : 2048 ≤ Rm.frames) (hlo : 84000 ≤ Rm.locals) (hb1 : b.1 + 951 ≤ Rm.cells) (hb2 : b.2 + 1006 ≤ Rm.slots) (hT_z : ∀ U, g.2.2.2 U → va_T .int s L (fun k => .int (xs k)) (zA g.2.2.1) U U.heap) (hi_z : iv.toInt = (i : Nat)) (hiL : i + 6 ≤ L) (hL : L ≤ 3072) (h_z : lwI w f j X T ty im p B th pl N) (hN_z : N < 1900000000) (kk : ∀ (u5 u6 u7 : Option Value) w2 f2_z j2 b2, b2.1 ≤ b.1 + 951 → b2.2 ≤ b.2 + 1006 → lwI w2 f2_z j2 X T ty im p B th pl (N + 1) → zR (zVg g Rm QQ hh nm 8 (some .boolean)) cL_law RL 2729 [some (.ref s), some (.ref X), some (.ref (X + 239)), some (.ref (X + 260)), some (.int iv), u5, u6, u7] [] (zM w2 f2_z j2) b2) : zR (zVg g Rm QQ hh nm 8 (some .boolean)) cL_law RL 377 [some (.ref s), some (.ref X), some (.ref (X + 239)), some (.ref (X + 260)), some (.int iv), u5, u6, u7] [] (zM w f j) b := by
  have hx := h_z.1.1
  have hX := shX_k hx
  have hO := h_z.1.2.2.2.1
  have hs := h_z.1.2.2.2.2.1
  have ht := h_z.1.2.2.2.2.2.1
  have hw := tb_wf ht
  have hS2 := h_z.1.2.1
  have hz := h_z.1.2.2.1
  refine r_aloadR1 dL_law_377 ?_
  refine r_aloadR0 dL_law_378 ?_
  refine r_iload4 dL_law_379 ?_
  refine n_iconst dL_law_381 (by decide) (fun r381 e381 => ?_)
  refine n_iadd dL_law_382 (by omega) (fun r382 e382 => ?_)
  refine k_iald (k := i + 1) (v := .int (xs (i + 1))) hT_z (by omega) (by omega) (by omega) rfl dL_law_383 ?_
  refine q_callV1 zm_RL_154 dL_law_384 hX (by decide) rfl (by first | exact Nat.le_of_ble_eq_true rfl | omega | (dsimp only; omega)) (by first | exact Nat.le_of_ble_eq_true rfl | omega | (dsimp only; omega)) (by first | exact Nat.le_of_ble_eq_true rfl | omega | (dsimp only; omega)) (by first | exact Nat.le_of_ble_eq_true rfl | omega | (dsimp only; omega)) (by first | exact Nat.le_of_ble_eq_true rfl | omega | (dsimp only; omega)) (s_X11_fault G hx (fun rc ec => ?_))
  refine r_aloadR2 dL_law_387 ?_
  refine r_aloadR0 dL_law_388 ?_
  refine r_iload4 dL_law_389 ?_
  refine n_iconst dL_law_391 (by decide) (fun r391 e391 => ?_)
  refine n_iadd dL_law_392 (by omega) (fun r392 e392 => ?_)
  refine k_iald (k := i + 1) (v := .int (xs (i + 1))) hT_z (by omega) (by omega) (by omega) rfl dL_law_393 ?_
  refine q_callV1 zm_RL_157 dL_law_394 (shM_k hs) (by decide) rfl (by first | exact Nat.le_of_ble_eq_true rfl | omega | (dsimp only; omega)) (by first | exact Nat.le_of_ble_eq_true rfl | omega | (dsimp only; omega)) (by first | exact Nat.le_of_ble_eq_true rfl | omega | (dsimp only; omega)) (by first | exact Nat.le_of_ble_eq_true rfl | omega | (dsimp only; omega)) (by first | exact Nat.le_of_ble_eq_true rfl | omega | (dsimp only; omega)) (s_X12_fault G hs (fun r6 f2_z e6_z o6 => ?_))
  have hI2 := lwI_mf h_z (frM_su o6 (by decide) (by decide))
  have he9 : rc.toInt = r6.toInt := by rw [ec, e6_z, h_z.1.2.2.2.2.2.2.2.2.2.2.2.2.2.2.2.1, h_z.1.2.2.2.2.2.2.2.2.2.2.2.2.2.2.2.2, h_z.2.2.2.2.2.2.2.2.1, h_z.2.2.2.2.2.2.2.2.2]
  refine t_iceq (t := 2729) dL_law_397 (by decide) (fun h397 => ?_) (fun h397 => False.elim (by omega))
  refine kk _ _ _ _ _ _ _ ?_ ?_ (lwI_m hI2 (by omega))
  · first | omega | (dsimp only; omega)
  · first | omega | (dsimp only; omega)
set_option maxHeartbeats 4000000 in
set_option maxRecDepth 100000 in
theorem lc_41 {g : zGT} {Rm : Room} {QQ : List Frame → Array Value → State → State → Prop} {hh : List (Nat × Nat × Nat × Nat)} {nm : String} {w : zW} {f : Nat → Nat → Int32} {j : Nat → Nat → Int64} {s X L i N : Nat} {xs : Nat → Int32} {T : zTb} {ty : Nat → zTy} {im : Nat → Option zTb} {p : Nat} {B : Nat → Nat} {th pl : Int} {iv : Int32} {u5 u6 u7 : Option Value} {b : Nat × Nat} (G : zGok g) (hfr : 2048 ≤ Rm.frames) (hlo : 84000 ≤ Rm.locals) (hb1 : b.1 + 951 ≤ Rm.cells) (hb2 : b.2 + 1006 ≤ Rm.slots) (hT_z : ∀ U, g.2.2.2 U → va_T .int s L (fun k => .int (xs k)) (zA g.2.2.1) U U.heap) (hi_z : iv.toInt = (i : Nat)) (hiL : i + 6 ≤ L) (hL : L ≤ 3072) (h_z : lwI w f j X T ty im p B th pl N) (hN_z : N < 1900000000)  (kk : ∀ (u5 u6 u7 : Option Value) w2 f2_z j2 b2, b2.1 ≤ b.1 + 951 → b2.2 ≤ b.2 + 1006 → lwI w2 f2_z j2 X T ty im p B th pl (N + 4) → zR (zVg g Rm QQ hh nm 8 (some .boolean)) cL_law RL 2729 [some (.ref s), some (.ref X), some (.ref (X + 239)), some (.ref (X + 260)), some (.int iv), u5, u6, u7] [] (zM w2 f2_z j2) b2) : zR (zVg g Rm QQ hh nm 8 (some .boolean)) cL_law RL 2337 [some (.ref s), some (.ref X), some (.ref (X + 239)), some (.ref (X + 260)), some (.int iv), u5, u6, u7] [] (zM w f j) b := by
  have hx := h_z.1.1
  have hX := shX_k hx
  have hO := h_z.1.2.2.2.1
  have hs := h_z.1.2.2.2.2.1
  have ht := h_z.1.2.2.2.2.2.1
  have hw := tb_wf ht
  have hS2 := h_z.1.2.1
  have hz := h_z.1.2.2.1
  refine r_aloadR1 dL_law_2337 ?_
  refine r_aloadR0 dL_law_2338 ?_
  refine r_iload4 dL_law_2339 ?_
  refine n_iconst dL_law_2341 (by decide) (fun r2341 e2341 => ?_)
  refine n_iadd dL_law_2342 (by omega) (fun r2342 e2342 => ?_)
  refine k_iald (k := i + 1) (v := .int (xs (i + 1))) hT_z (by omega) (by omega) (by omega) rfl dL_law_2343 ?_
  refine r_aloadR0 dL_law_2344 ?_
  refine r_iload4 dL_law_2345 ?_
  refine n_iconst dL_law_2347 (by decide) (fun r2347 e2347 => ?_)
  refine n_iadd dL_law_2348 (by omega) (fun r2348 e2348 => ?_)
  refine k_iald (k := i + 2) (v := .int (xs (i + 2))) hT_z (by omega) (by omega) (by omega) rfl dL_law_2349 ?_
  refine r_aloadR3 dL_law_2350 ?_
  refine q_callW (As := [.ref X, .int (xs (i + 1)), .int (xs (i + 2)), .ref (X + 260)]) (rest := []) zw_look dL_law_2351 rfl rfl (by decide) (by first | exact Nat.le_of_ble_eq_true rfl | omega | (dsimp only; omega)) (by first | exact Nat.le_of_ble_eq_true rfl | omega | (dsimp only; omega)) (by first | exact Nat.le_of_ble_eq_true rfl | omega | (dsimp only; omega)) (by first | exact Nat.le_of_ble_eq_true rfl | omega | (dsimp only; omega)) (w_look G hX (s_X11_look G hx ht h_z.1.2.2.2.2.2.2.2.2.1 h_z.1.2.2.2.2.2.2.2.1  (fun hc0 n hn => Or.inl ⟨rfl, fun k1_z ek => ?_⟩) (fun hc0 hc1 n hn => Or.inr (Or.inl ⟨rfl, fun k1_z ek => ?_⟩)) (fun hc0 s l hc1 hc2 n hn => Or.inr (Or.inr (⟨rfl, fun k1_z ek => ?_⟩))) (fun hc0 s l hc1 hc2 rc f1_z ec hq => ⟨rc, w, f1_z, j, rfl, rfl, hO.1, hO.2, fun k1_z y1 ek ey => ?_⟩)))
  · have hI1 := lwI_s (n := n) h_z hn
    rw [show zsS (zM w f j) n = zM (zsS w n) f j from rfl]
    have hs := hI1.1.2.2.2.2.1
    have hO := hI1.1.2.2.2.1
    refine r_istore5 dL_law_2354 rfl ?_
    refine r_aloadR2 dL_law_2356 ?_
    refine r_aloadR0 dL_law_2357 ?_
    refine r_iload4 dL_law_2358 ?_
    refine n_iconst dL_law_2360 (by decide) (fun r2360 e2360 => ?_)
    refine n_iadd dL_law_2361 (by omega) (fun r2361 e2361 => ?_)
    refine k_iald (k := i + 1) (v := .int (xs (i + 1))) hT_z (by omega) (by omega) (by omega) rfl dL_law_2362 ?_
    refine r_aloadR0 dL_law_2363 ?_
    refine r_iload4 dL_law_2364 ?_
    refine n_iconst dL_law_2366 (by decide) (fun r2366 e2366 => ?_)
    refine n_iadd dL_law_2367 (by omega) (fun r2367 e2367 => ?_)
    refine k_iald (k := i + 2) (v := .int (xs (i + 2))) hT_z (by omega) (by omega) (by omega) rfl dL_law_2368 ?_
    refine q_callV2 zm_RL_286 dL_law_2369 (shM_k hs) (by decide) rfl (by decide) (by first | exact Nat.le_of_ble_eq_true rfl | omega | (dsimp only; omega)) (by first | exact Nat.le_of_ble_eq_true rfl | omega | (dsimp only; omega)) (by first | exact Nat.le_of_ble_eq_true rfl | omega | (dsimp only; omega)) (by first | exact Nat.le_of_ble_eq_true rfl | omega | (dsimp only; omega)) (s_X12_look G hs hI1.2.1 hw hI1.2.2.2.2.1 (by have h9 := hI1.2.2.2.2.2.1; omega) hI1.2.2.1 (fun hy0 r6 f2_z j2 o6 t6 => ?_) (fun hy0 hy1 r6 f2_z j2 o6 t6 => ?_) (fun hy0 s9 l9 hy1 hy2 r6 f2_z j2 o6 t6 => ?_) (fun hy0 s9 l9 hy1 hy2 r6 f2_z j2 e6_z o6 t6 => ?_))
    · have hI2 := lwI_mq hI1 o6
      refine r_istore6 dL_law_2372 rfl ?_
      refine r_aloadR2 dL_law_2374 ?_
      refine q_callV0 zm_RL_151 dL_law_2375 (shM_k hs) (by decide) rfl (by first | exact Nat.le_of_ble_eq_true rfl | omega | (dsimp only; omega)) (by first | exact Nat.le_of_ble_eq_true rfl | omega | (dsimp only; omega)) (by first | exact Nat.le_of_ble_eq_true rfl | omega | (dsimp only; omega)) (by first | exact Nat.le_of_ble_eq_true rfl | omega | (dsimp only; omega)) (by first | exact Nat.le_of_ble_eq_true rfl | omega | (dsimp only; omega)) (s_X12_thrown G hs (fun r7 e7_z => ?_))
      have e7i : r7.toInt = (f2_z (X + 239) 4).toInt := by rw [e7_z]
      refine r_iload5 dL_law_2378 ?_
      refine t_iceq (t := 2385) dL_law_2380 (by decide) (fun h2380 => ?_) (fun h2380 => False.elim (by omega))
      refine r_iload5 dL_law_2385 ?_
      refine t_ifne (t := 2402) dL_law_2387 (by decide) (fun h2387 => ?_) (fun h2387 => False.elim (by omega))
      refine r_goto (t := 2729) dL_law_2402 (by decide) ?_
      refine kk _ _ _ _ _ _ _ ?_ ?_ (lwI_m hI2 (by omega))
      · first | omega | (dsimp only; omega)
      · first | omega | (dsimp only; omega)
    · exact False.elim (by first | omega | (rw [hc1] at hy1; cases hy1; done) | exact hc1 hy1 | exact hy1 hc1 | (cases Option.some.inj (hc1.symm.trans hy1); first | exact hc2 hy2 | exact hy2 hc2))
    · exact False.elim (by first | omega | (rw [hc1] at hy1; cases hy1; done) | exact hc1 hy1 | exact hy1 hc1 | (cases Option.some.inj (hc1.symm.trans hy1); first | exact hc2 hy2 | exact hy2 hc2))
    · exact False.elim (by first | omega | (rw [hc1] at hy1; cases hy1; done) | exact hc1 hy1 | exact hy1 hc1 | (cases Option.some.inj (hc1.symm.trans hy1); first | exact hc2 hy2 | exact hy2 hc2))
  · have hI1 := lwI_s (n := n) h_z hn
    rw [show zsS (zM w f j) n = zM (zsS w n) f j from rfl]
    have hs := hI1.1.2.2.2.2.1
    have hO := hI1.1.2.2.2.1
    refine r_istore5 dL_law_2354 rfl ?_
    refine r_aloadR2 dL_law_2356 ?_
    refine r_aloadR0 dL_law_2357 ?_
    refine r_iload4 dL_law_2358 ?_
    refine n_iconst dL_law_2360 (by decide) (fun r2360 e2360 => ?_)
    refine n_iadd dL_law_2361 (by omega) (fun r2361 e2361 => ?_)
    refine k_iald (k := i + 1) (v := .int (xs (i + 1))) hT_z (by omega) (by omega) (by omega) rfl dL_law_2362 ?_
    refine r_aloadR0 dL_law_2363 ?_
    refine r_iload4 dL_law_2364 ?_
    refine n_iconst dL_law_2366 (by decide) (fun r2366 e2366 => ?_)
    refine n_iadd dL_law_2367 (by omega) (fun r2367 e2367 => ?_)
    refine k_iald (k := i + 2) (v := .int (xs (i + 2))) hT_z (by omega) (by omega) (by omega) rfl dL_law_2368 ?_
    refine q_callV2 zm_RL_286 dL_law_2369 (shM_k hs) (by decide) rfl (by decide) (by first | exact Nat.le_of_ble_eq_true rfl | omega | (dsimp only; omega)) (by first | exact Nat.le_of_ble_eq_true rfl | omega | (dsimp only; omega)) (by first | exact Nat.le_of_ble_eq_true rfl | omega | (dsimp only; omega)) (by first | exact Nat.le_of_ble_eq_true rfl | omega | (dsimp only; omega)) (s_X12_look G hs hI1.2.1 hw hI1.2.2.2.2.1 (by have h9 := hI1.2.2.2.2.2.1; omega) hI1.2.2.1 (fun hy0 r6 f2_z j2 o6 t6 => ?_) (fun hy0 hy1 r6 f2_z j2 o6 t6 => ?_) (fun hy0 s9 l9 hy1 hy2 r6 f2_z j2 o6 t6 => ?_) (fun hy0 s9 l9 hy1 hy2 r6 f2_z j2 e6_z o6 t6 => ?_))
    · exact False.elim (by first | omega | (rw [hc1] at hy1; cases hy1; done) | exact hc1 hy1 | exact hy1 hc1 | (cases Option.some.inj (hc1.symm.trans hy1); first | exact hc2 hy2 | exact hy2 hc2))
    · have hI2 := lwI_mq hI1 o6
      refine r_istore6 dL_law_2372 rfl ?_
      refine r_aloadR2 dL_law_2374 ?_
      refine q_callV0 zm_RL_151 dL_law_2375 (shM_k hs) (by decide) rfl (by first | exact Nat.le_of_ble_eq_true rfl | omega | (dsimp only; omega)) (by first | exact Nat.le_of_ble_eq_true rfl | omega | (dsimp only; omega)) (by first | exact Nat.le_of_ble_eq_true rfl | omega | (dsimp only; omega)) (by first | exact Nat.le_of_ble_eq_true rfl | omega | (dsimp only; omega)) (by first | exact Nat.le_of_ble_eq_true rfl | omega | (dsimp only; omega)) (s_X12_thrown G hs (fun r7 e7_z => ?_))
      have e7i : r7.toInt = (f2_z (X + 239) 4).toInt := by rw [e7_z]
      refine r_iload5 dL_law_2378 ?_
      refine t_iceq (t := 2385) dL_law_2380 (by decide) (fun h2380 => ?_) (fun h2380 => False.elim (by omega))
      refine r_iload5 dL_law_2385 ?_
      refine t_ifne (t := 2402) dL_law_2387 (by decide) (fun h2387 => ?_) (fun h2387 => False.elim (by omega))
      refine r_goto (t := 2729) dL_law_2402 (by decide) ?_
      refine kk _ _ _ _ _ _ _ ?_ ?_ (lwI_m hI2 (by omega))
      · first | omega | (dsimp only; omega)
      · first | omega | (dsimp only; omega)
    · exact False.elim (by first | omega | (rw [hc1] at hy1; cases hy1; done) | exact hc1 hy1 | exact hy1 hc1 | (cases Option.some.inj (hc1.symm.trans hy1); first | exact hc2 hy2 | exact hy2 hc2))
    · exact False.elim (by first | omega | (rw [hc1] at hy1; cases hy1; done) | exact hc1 hy1 | exact hy1 hc1 | (cases Option.some.inj (hc1.symm.trans hy1); first | exact hc2 hy2 | exact hy2 hc2))
  · have hI1 := lwI_s (n := n) h_z hn
    rw [show zsS (zM w f j) n = zM (zsS w n) f j from rfl]
    have hs := hI1.1.2.2.2.2.1
    have hO := hI1.1.2.2.2.1
    refine r_istore5 dL_law_2354 rfl ?_
    refine r_aloadR2 dL_law_2356 ?_
    refine r_aloadR0 dL_law_2357 ?_
    refine r_iload4 dL_law_2358 ?_
    refine n_iconst dL_law_2360 (by decide) (fun r2360 e2360 => ?_)
    refine n_iadd dL_law_2361 (by omega) (fun r2361 e2361 => ?_)
    refine k_iald (k := i + 1) (v := .int (xs (i + 1))) hT_z (by omega) (by omega) (by omega) rfl dL_law_2362 ?_
    refine r_aloadR0 dL_law_2363 ?_
    refine r_iload4 dL_law_2364 ?_
    refine n_iconst dL_law_2366 (by decide) (fun r2366 e2366 => ?_)
    refine n_iadd dL_law_2367 (by omega) (fun r2367 e2367 => ?_)
    refine k_iald (k := i + 2) (v := .int (xs (i + 2))) hT_z (by omega) (by omega) (by omega) rfl dL_law_2368 ?_
    refine q_callV2 zm_RL_286 dL_law_2369 (shM_k hs) (by decide) rfl (by decide) (by first | exact Nat.le_of_ble_eq_true rfl | omega | (dsimp only; omega)) (by first | exact Nat.le_of_ble_eq_true rfl | omega | (dsimp only; omega)) (by first | exact Nat.le_of_ble_eq_true rfl | omega | (dsimp only; omega)) (by first | exact Nat.le_of_ble_eq_true rfl | omega | (dsimp only; omega)) (s_X12_look G hs hI1.2.1 hw hI1.2.2.2.2.1 (by have h9 := hI1.2.2.2.2.2.1; omega) hI1.2.2.1 (fun hy0 r6 f2_z j2 o6 t6 => ?_) (fun hy0 hy1 r6 f2_z j2 o6 t6 => ?_) (fun hy0 s9 l9 hy1 hy2 r6 f2_z j2 o6 t6 => ?_) (fun hy0 s9 l9 hy1 hy2 r6 f2_z j2 e6_z o6 t6 => ?_))
    · exact False.elim (by first | omega | (rw [hc1] at hy1; cases hy1; done) | exact hc1 hy1 | exact hy1 hc1 | (cases Option.some.inj (hc1.symm.trans hy1); first | exact hc2 hy2 | exact hy2 hc2))
    · exact False.elim (by first | omega | (rw [hc1] at hy1; cases hy1; done) | exact hc1 hy1 | exact hy1 hc1 | (cases Option.some.inj (hc1.symm.trans hy1); first | exact hc2 hy2 | exact hy2 hc2))
    · cases Option.some.inj (hc1.symm.trans hy1)
      have hI2 := lwI_mq hI1 o6
      refine r_istore6 dL_law_2372 rfl ?_
      refine r_aloadR2 dL_law_2374 ?_
      refine q_callV0 zm_RL_151 dL_law_2375 (shM_k hs) (by decide) rfl (by first | exact Nat.le_of_ble_eq_true rfl | omega | (dsimp only; omega)) (by first | exact Nat.le_of_ble_eq_true rfl | omega | (dsimp only; omega)) (by first | exact Nat.le_of_ble_eq_true rfl | omega | (dsimp only; omega)) (by first | exact Nat.le_of_ble_eq_true rfl | omega | (dsimp only; omega)) (by first | exact Nat.le_of_ble_eq_true rfl | omega | (dsimp only; omega)) (s_X12_thrown G hs (fun r7 e7_z => ?_))
      have e7i : r7.toInt = (f2_z (X + 239) 4).toInt := by rw [e7_z]
      refine r_iload5 dL_law_2378 ?_
      refine t_iceq (t := 2385) dL_law_2380 (by decide) (fun h2380 => ?_) (fun h2380 => False.elim (by omega))
      refine r_iload5 dL_law_2385 ?_
      refine t_ifne (t := 2402) dL_law_2387 (by decide) (fun h2387 => ?_) (fun h2387 => False.elim (by omega))
      refine r_goto (t := 2729) dL_law_2402 (by decide) ?_
      refine kk _ _ _ _ _ _ _ ?_ ?_ (lwI_m hI2 (by omega))
      · first | omega | (dsimp only; omega)
      · first | omega | (dsimp only; omega)
    · exact False.elim (by first | omega | (rw [hc1] at hy1; cases hy1; done) | exact hc1 hy1 | exact hy1 hc1 | (cases Option.some.inj (hc1.symm.trans hy1); first | exact hc2 hy2 | exact hy2 hc2))
  · have hI1 := lwI_o (y := y1) (lwI_cq h_z hq)
    have hs := hI1.1.2.2.2.2.1
    have hj1 : zu j (X + 260) 0 y1 (X + 260) 0 = y1 := zu_at
    obtain ⟨j1, hj⟩ : ∃ j9, j9 = zu j (X + 260) 0 y1 := ⟨_, rfl⟩
    rw [← hj] at hI1 hj1 ⊢
    refine r_istore5 dL_law_2354 rfl ?_
    refine r_aloadR2 dL_law_2356 ?_
    refine r_aloadR0 dL_law_2357 ?_
    refine r_iload4 dL_law_2358 ?_
    refine n_iconst dL_law_2360 (by decide) (fun r2360 e2360 => ?_)
    refine n_iadd dL_law_2361 (by omega) (fun r2361 e2361 => ?_)
    refine k_iald (k := i + 1) (v := .int (xs (i + 1))) hT_z (by omega) (by omega) (by omega) rfl dL_law_2362 ?_
    refine r_aloadR0 dL_law_2363 ?_
    refine r_iload4 dL_law_2364 ?_
    refine n_iconst dL_law_2366 (by decide) (fun r2366 e2366 => ?_)
    refine n_iadd dL_law_2367 (by omega) (fun r2367 e2367 => ?_)
    refine k_iald (k := i + 2) (v := .int (xs (i + 2))) hT_z (by omega) (by omega) (by omega) rfl dL_law_2368 ?_
    refine q_callV2 zm_RL_286 dL_law_2369 (shM_k hs) (by decide) rfl (by decide) (by first | exact Nat.le_of_ble_eq_true rfl | omega | (dsimp only; omega)) (by first | exact Nat.le_of_ble_eq_true rfl | omega | (dsimp only; omega)) (by first | exact Nat.le_of_ble_eq_true rfl | omega | (dsimp only; omega)) (by first | exact Nat.le_of_ble_eq_true rfl | omega | (dsimp only; omega)) (s_X12_look G hs hI1.2.1 hw hI1.2.2.2.2.1 (by have h9 := hI1.2.2.2.2.2.1; omega) hI1.2.2.1 (fun hy0 r6 f2_z j2 o6 t6 => ?_) (fun hy0 hy1 r6 f2_z j2 o6 t6 => ?_) (fun hy0 s9 l9 hy1 hy2 r6 f2_z j2 o6 t6 => ?_) (fun hy0 s9 l9 hy1 hy2 r6 f2_z j2 e6_z o6 t6 => ?_))
    · exact False.elim (by first | omega | (rw [hc1] at hy1; cases hy1; done) | exact hc1 hy1 | exact hy1 hc1 | (cases Option.some.inj (hc1.symm.trans hy1); first | exact hc2 hy2 | exact hy2 hc2))
    · exact False.elim (by first | omega | (rw [hc1] at hy1; cases hy1; done) | exact hc1 hy1 | exact hy1 hc1 | (cases Option.some.inj (hc1.symm.trans hy1); first | exact hc2 hy2 | exact hy2 hc2))
    · exact False.elim (by first | omega | (rw [hc1] at hy1; cases hy1; done) | exact hc1 hy1 | exact hy1 hc1 | (cases Option.some.inj (hc1.symm.trans hy1); first | exact hc2 hy2 | exact hy2 hc2))
    · cases Option.some.inj (hc1.symm.trans hy1)
      have hI2 := lwI_mq hI1 o6
      have hl2 : (j2 (X + 260) 0).toInt = y1.toInt := by rw [o6.2.1 (X + 260) (by omega), hj1]
      have he9 : rc.toInt = r6.toInt := by rw [ec, e6_z]; exact eq_look (fun i => hw.2.2.2.2.2.2.2.1.2.2 i) (rch_flat hw.2.1) (by have h9 := hc2.2; omega) (fun L hL => (@of_decide_eq_true _ (Classical.propDecidable _) hL).1.symm)
      refine r_istore6 dL_law_2372 rfl ?_
      refine r_aloadR2 dL_law_2374 ?_
      refine q_callV0 zm_RL_151 dL_law_2375 (shM_k hs) (by decide) rfl (by first | exact Nat.le_of_ble_eq_true rfl | omega | (dsimp only; omega)) (by first | exact Nat.le_of_ble_eq_true rfl | omega | (dsimp only; omega)) (by first | exact Nat.le_of_ble_eq_true rfl | omega | (dsimp only; omega)) (by first | exact Nat.le_of_ble_eq_true rfl | omega | (dsimp only; omega)) (by first | exact Nat.le_of_ble_eq_true rfl | omega | (dsimp only; omega)) (s_X12_thrown G hs (fun r7 e7_z => ?_))
      have e7i : r7.toInt = (f2_z (X + 239) 4).toInt := by rw [e7_z]
      refine r_iload5 dL_law_2378 ?_
      refine t_iceq (t := 2385) dL_law_2380 (by decide) (fun h2380 => ?_) (fun h2380 => False.elim (by omega))
      refine r_iload5 dL_law_2385 ?_
      refine t_ifne (t := 2402) dL_law_2387 (by decide) (fun h2387 => False.elim (by omega)) (fun h2387 => ?_)
      refine r_aloadR3 dL_law_2390 ?_
      refine n_iconst dL_law_2391 (by decide) (fun r2391 e2391 => ?_)
      refine m_lald (k := 0) (x := (j2 (X + 260) 0)) dL_law_2392 hO.1 hO.2 (by omega) (by omega) (rfl) ?_
      refine r_iload6 dL_law_2393 ?_
      refine n_i2l dL_law_2395 (fun r2395 e2395 => ?_)
      refine n_lcmp dL_law_2396 (fun r2396 e2396 => ?_)
      unfold zcmp at e2396
      refine t_ifeq (t := 2402) dL_law_2397 (by decide) (fun h2397 => ?_) (fun h2397 => False.elim (by omega))
      refine r_goto (t := 2729) dL_law_2402 (by decide) ?_
      refine kk _ _ _ _ _ _ _ ?_ ?_ (lwI_m hI2 (by omega))
      · first | omega | (dsimp only; omega)
      · first | omega | (dsimp only; omega)
