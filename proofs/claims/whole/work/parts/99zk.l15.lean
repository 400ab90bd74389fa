/-! the law: the cases, fifteenth part: trays -/
def tyS (ty : Nat → zTy) (t : Nat) (y : zTy) : Nat → zTy := fun i => if i = t then y else ty i
theorem lwC_tray {w : zW} {f f2_z : Nat → Nat → Int32} {j j2 : Nat → Nat → Int64} {X t : Nat} {y : zTy} {T : zTb} {ty : Nat → zTy} {im : Nat → Option zTb} {p : Nat} {B : Nat → Nat} {th pl : Int} (h_z : lwC w f j X T ty im p B th pl) (ht : t < 4) (o : ∀ q, ¬ (X + 93 ≤ q ∧ q < X + 101) → q ≠ X + 231 + 2 * t → f2_z q = f q) (oj : ∀ q, q ≠ X + 231 + 2 * t + 1 → j2 q = j q) (hn : ctTr f2_z j2 (X + 231 + 2 * t) y) : lwC w f2_z j2 X T (tyS ty t y) im p B th pl := by
  obtain ⟨a1, a2, a3, a4, a5, a6, a7, a8, a9, a10, a11, a12, a13, a14, a15, a16, a17⟩ := h_z
  have oz : ∀ q, zoneX X q → f2_z q = f q := fun q hq => o q (by unfold zoneX at hq; omega) (by unfold zoneX at hq; omega)
  have oX : f2_z X = f X := o X (by omega) (by omega)
  refine ⟨a1, a2, a3, a4, a5, tbAt_q a6 oz (fun q hq => o q (by omega) (by omega)), wyI_e a7 (fun r h1 h2 => o _ (by omega) (by omega)), wyI_e a8 (fun r h1 h2 => o _ (by omega) (by omega)), fun i hi_z => ?_, fun i hi_z => ?_, fun i hi_z => ?_, by rw [oX]; exact a12, a13, fun q hq => by rw [o (X + 1) (by omega) (by omega)]; exact a14 q hq, a15, by rw [oX]; exact a16, by rw [oX]; exact a17⟩
  · unfold tyS
    by_cases h9 : i = t
    · rw [if_pos h9, h9]
      exact hn
    · rw [if_neg h9]
      exact ctTr_of (a9 i hi_z) (o _ (by omega) (by omega)) (oj _ (by omega))
  · have h9 := a10 i hi_z
    cases hm_z : im i with
    | none =>
      rw [hm_z] at h9
      unfold imAt at h9 ⊢
      rw [o (X + 108 + 41 * i) (by omega) (by omega)]
      exact h9
    | some T2 =>
      rw [hm_z] at h9
      obtain ⟨b1, b2⟩ := h9
      exact ⟨by rw [o (X + 108 + 41 * i) (by omega) (by omega)]; exact b1, tbAt_q b2 oz (fun q hq => o q (by omega) (by omega))⟩
  · obtain ⟨pp, M, g0, p0, b1, b2⟩ := a11 i hi_z
    exact ⟨pp, M, g0, p0, b1, ctTb_q b2 b1 (fun q hq => o q (by omega) (by omega))⟩
theorem lwM_tray {f f2_z : Nat → Nat → Int32} {j j2 : Nat → Nat → Int64} {A N t : Nat} {y : zTy} {T : zTb} {ty : Nat → zTy} {im : Nat → Option zTb} {p : Nat} {B : Nat → Nat} {th pl : Int} (h_z : lwM f j A T ty im p B th pl N) (o : frM A [6, 18, 19] [4] f f2_z) (hn : ctTm f2_z j2 A t y) (hr : ∀ t2 ty2, t2 < 4 → t2 ≠ t → ctTm f j A t2 ty2 → ctTm f2_z j2 A t2 ty2) : lwM f2_z j2 A T (tyS ty t y) im p B th pl N := by
  obtain ⟨a1, a2, a3, a4, a5, a6, a7, a8, a9⟩ := h_z
  have e1_z : f2_z (A + 1) = f (A + 1) := o.2.1 1 (by decide) (by decide) (by decide)
  have e3_z : f2_z (A + 3) = f (A + 3) := o.2.1 3 (by decide) (by decide) (by decide)
  have e4_z : f2_z (A + 4) = f (A + 4) := o.2.1 4 (by decide) (by decide) (by decide)
  have e5_z : f2_z (A + 5) = f (A + 5) := o.2.1 5 (by decide) (by decide) (by decide)
  have e15_z : f2_z (A + 15) = f (A + 15) := o.2.1 15 (by decide) (by decide) (by decide)
  have e37 : f2_z A 37 = f A 37 := o.2.2 37 (by decide)
  refine ⟨by rw [e1_z]; exact a1, fun i hi_z => ?_, fun i hi_z => imM_of (a3 i hi_z) (congrFun e4_z i) (fun k _ => congrFun e3_z _), fun i hi_z => by rw [e15_z, e37]; exact a4 i hi_z, by rw [e37]; exact a5, by rw [o.2.2 6 (by decide)]; exact a6, fun q hq => by rw [e5_z]; exact a7 q hq, by rw [o.2.2 14 (by decide)]; exact a8, by rw [o.2.2 15 (by decide)]; exact a9⟩
  unfold tyS
  by_cases h9 : i = t
  · rw [if_pos h9, h9]
    exact hn
  · rw [if_neg h9]
    exact hr i _ hi_z h9 (a2 i hi_z)
set_option maxHeartbeats 4000000 in
set_option maxRecDepth 100000 in
theorem lc_42 {g : zGT} {Rm : Room} {QQ : List Frame → Array Value → State → State → Prop} {hh : List (Nat × Nat × Nat × Nat)} {nm : String} {w : zW} {f : Nat → Nat → Int32} {j : Nat → Nat → Int64} {s X L i N : Nat} {xs : Nat → Int32} {T : zTb} {ty : Nat → zTy} {im : Nat → Option zTb} {p : Nat} {B : Nat → Nat} {th pl : Int} {iv : Int32} {u5 u6 u7 : Option Value} {b : Nat × Nat} (G : zGok g) (hfr : 2048 ≤ Rm.frames) (hlo : 84000 ≤ Rm.locals) (hb1 : b.1 + 951 ≤ Rm.cells) (hb2 : b.2 + 1006 ≤ Rm.slots) (hT_z : ∀ U, g.2.2.2 U → va_T .int s L (fun k => .int (xs k)) (zA g.2.2.1) U U.heap) (hi_z : iv.toInt = (i : Nat)) (hiL : i + 6 ≤ L) (hL : L ≤ 3072) (h_z : lwI w f j X T ty im p B th pl N) (hN_z : N < 1900000000)  (kk : ∀ (T9 : zTb) (ty9 : Nat → zTy) (im9 : Nat → Option zTb) (p9 : Nat) (B9 : Nat → Nat) (th9 pl9 : Int) (u5 u6 u7 : Option Value) w2 f2_z j2 b2, b2.1 ≤ b.1 + 951 → b2.2 ≤ b.2 + 1006 → lwI w2 f2_z j2 X T9 ty9 im9 p9 B9 th9 pl9 (N + 1) → zR (zVg g Rm QQ hh nm 8 (some .boolean)) cL_law RL 2729 [some (.ref s), some (.ref X), some (.ref (X + 239)), some (.ref (X + 260)), some (.int iv), u5, u6, u7] [] (zM w2 f2_z j2) b2) : zR (zVg g Rm QQ hh nm 8 (some .boolean)) cL_law RL 2405 [some (.ref s), some (.ref X), some (.ref (X + 239)), some (.ref (X + 260)), some (.int iv), u5, u6, u7] [] (zM w f j) b := by
  have hx := h_z.1.1
  have hX := shX_k hx
  have hO := h_z.1.2.2.2.1
  have hs := h_z.1.2.2.2.2.1
  have ht := h_z.1.2.2.2.2.2.1
  have hw := tb_wf ht
  have hS2 := h_z.1.2.1
  have hz := h_z.1.2.2.1
  refine r_aloadR1 dL_law_2405 ?_
  refine r_aloadR0 dL_law_2406 ?_
  refine r_iload4 dL_law_2407 ?_
  refine n_iconst dL_law_2409 (by decide) (fun r2409 e2409 => ?_)
  refine n_iadd dL_law_2410 (by omega) (fun r2410 e2410 => ?_)
  refine k_iald (k := i + 1) (v := .int (xs (i + 1))) hT_z (by omega) (by omega) (by omega) rfl dL_law_2411 ?_
  refine r_aloadR0 dL_law_2412 ?_
  refine r_iload4 dL_law_2413 ?_
  refine n_iconst dL_law_2415 (by decide) (fun r2415 e2415 => ?_)
  refine n_iadd dL_law_2416 (by omega) (fun r2416 e2416 => ?_)
  refine k_iald (k := i + 2) (v := .int (xs (i + 2))) hT_z (by omega) (by omega) (by omega) rfl dL_law_2417 ?_
  refine r_aloadR0 dL_law_2418 ?_
  refine r_iload4 dL_law_2419 ?_
  refine n_iconst dL_law_2421 (by decide) (fun r2421 e2421 => ?_)
  refine n_iadd dL_law_2422 (by omega) (fun r2422 e2422 => ?_)
  refine k_iald (k := i + 3) (v := .int (xs (i + 3))) hT_z (by omega) (by omega) (by omega) rfl dL_law_2423 ?_
  refine q_callW (As := [.ref X, .int (xs (i + 1)), .int (xs (i + 2)), .int (xs (i + 3))]) (rest := []) zw_tray dL_law_2424 rfl rfl (by decide) (by first | exact Nat.le_of_ble_eq_true rfl | omega | (dsimp only; omega)) (by first | exact Nat.le_of_ble_eq_true rfl | omega | (dsimp only; omega)) (by first | exact Nat.le_of_ble_eq_true rfl | omega | (dsimp only; omega)) (by first | exact Nat.le_of_ble_eq_true rfl | omega | (dsimp only; omega)) (w_tray G hX (s_X11_tray G hx h_z.1.2.2.2.2.2.2.2.2.1 (fun hc0 n9 hn9 => Or.inl ⟨rfl, fun k1_z ek => ?_⟩) (fun hc0 hc1 n9 hn9 => Or.inr ⟨rfl, fun k1_z ek => ?_⟩) (fun hc0 hc1 f1_z j1 g2 g3_z g4 => ⟨rfl, fun k1_z ek => ?_⟩)))
  · have hI1 := lwI_s (n := n9) h_z hn9
    rw [show zsS (zM w f j) n9 = zM (zsS w n9) f j from rfl]
    have hs := hI1.1.2.2.2.2.1
    have hO := hI1.1.2.2.2.1
    refine r_istore5 dL_law_2427 rfl ?_
    refine r_aloadR2 dL_law_2429 ?_
    refine r_aloadR0 dL_law_2430 ?_
    refine r_iload4 dL_law_2431 ?_
    refine n_iconst dL_law_2433 (by decide) (fun r2433 e2433 => ?_)
    refine n_iadd dL_law_2434 (by omega) (fun r2434 e2434 => ?_)
    refine k_iald (k := i + 1) (v := .int (xs (i + 1))) hT_z (by omega) (by omega) (by omega) rfl dL_law_2435 ?_
    refine r_aloadR0 dL_law_2436 ?_
    refine r_iload4 dL_law_2437 ?_
    refine n_iconst dL_law_2439 (by decide) (fun r2439 e2439 => ?_)
    refine n_iadd dL_law_2440 (by omega) (fun r2440 e2440 => ?_)
    refine k_iald (k := i + 2) (v := .int (xs (i + 2))) hT_z (by omega) (by omega) (by omega) rfl dL_law_2441 ?_
    refine r_aloadR0 dL_law_2442 ?_
    refine r_iload4 dL_law_2443 ?_
    refine n_iconst dL_law_2445 (by decide) (fun r2445 e2445 => ?_)
    refine n_iadd dL_law_2446 (by omega) (fun r2446 e2446 => ?_)
    refine k_iald (k := i + 3) (v := .int (xs (i + 3))) hT_z (by omega) (by omega) (by omega) rfl dL_law_2447 ?_
    refine q_callV3 zm_RL_290 dL_law_2448 (shM_k hs) (by decide) rfl (by decide) (by first | exact Nat.le_of_ble_eq_true rfl | omega | (dsimp only; omega)) (by first | exact Nat.le_of_ble_eq_true rfl | omega | (dsimp only; omega)) (by first | exact Nat.le_of_ble_eq_true rfl | omega | (dsimp only; omega)) (by first | exact Nat.le_of_ble_eq_true rfl | omega | (dsimp only; omega)) (s_X12_tray G hs (fun hy0 f2_z o6 t6 => ?_) (fun hy0 hy1 f2_z o6 t6 => ?_) (fun hy0 hy1 f2_z j2 o6 t6 o7 a4 a5 => ?_))
    · have hI2 := lwI_mf hI1 (frM_su o6 (by decide) (by decide))
      refine r_aloadR2 dL_law_2451 ?_
      refine q_callV0 zm_RL_151 dL_law_2452 (shM_k hs) (by decide) rfl (by first | exact Nat.le_of_ble_eq_true rfl | omega | (dsimp only; omega)) (by first | exact Nat.le_of_ble_eq_true rfl | omega | (dsimp only; omega)) (by first | exact Nat.le_of_ble_eq_true rfl | omega | (dsimp only; omega)) (by first | exact Nat.le_of_ble_eq_true rfl | omega | (dsimp only; omega)) (by first | exact Nat.le_of_ble_eq_true rfl | omega | (dsimp only; omega)) (s_X12_thrown G hs (fun r7 e7_z => ?_))
      have e7i : r7.toInt = (f2_z (X + 239) 4).toInt := by rw [e7_z]
      refine r_iload5 dL_law_2455 ?_
      refine t_iceq (t := 2462) dL_law_2457 (by decide) (fun h2457 => ?_) (fun h2457 => False.elim (by omega))
      refine r_goto (t := 2729) dL_law_2462 (by decide) ?_
      refine kk _ _ _ _ _ _ _ _ _ _ _ _ _ _ ?_ ?_ (lwI_m hI2 (by omega))
      · first | omega | (dsimp only; omega)
      · first | omega | (dsimp only; omega)
    · exact False.elim (by omega)
    · exact False.elim (by omega)
  · have hI1 := lwI_s (n := n9) h_z hn9
    rw [show zsS (zM w f j) n9 = zM (zsS w n9) f j from rfl]
    have hs := hI1.1.2.2.2.2.1
    have hO := hI1.1.2.2.2.1
    refine r_istore5 dL_law_2427 rfl ?_
    refine r_aloadR2 dL_law_2429 ?_
    refine r_aloadR0 dL_law_2430 ?_
    refine r_iload4 dL_law_2431 ?_
    refine n_iconst dL_law_2433 (by decide) (fun r2433 e2433 => ?_)
    refine n_iadd dL_law_2434 (by omega) (fun r2434 e2434 => ?_)
    refine k_iald (k := i + 1) (v := .int (xs (i + 1))) hT_z (by omega) (by omega) (by omega) rfl dL_law_2435 ?_
    refine r_aloadR0 dL_law_2436 ?_
    refine r_iload4 dL_law_2437 ?_
    refine n_iconst dL_law_2439 (by decide) (fun r2439 e2439 => ?_)
    refine n_iadd dL_law_2440 (by omega) (fun r2440 e2440 => ?_)
    refine k_iald (k := i + 2) (v := .int (xs (i + 2))) hT_z (by omega) (by omega) (by omega) rfl dL_law_2441 ?_
    refine r_aloadR0 dL_law_2442 ?_
    refine r_iload4 dL_law_2443 ?_
    refine n_iconst dL_law_2445 (by decide) (fun r2445 e2445 => ?_)
    refine n_iadd dL_law_2446 (by omega) (fun r2446 e2446 => ?_)
    refine k_iald (k := i + 3) (v := .int (xs (i + 3))) hT_z (by omega) (by omega) (by omega) rfl dL_law_2447 ?_
    refine q_callV3 zm_RL_290 dL_law_2448 (shM_k hs) (by decide) rfl (by decide) (by first | exact Nat.le_of_ble_eq_true rfl | omega | (dsimp only; omega)) (by first | exact Nat.le_of_ble_eq_true rfl | omega | (dsimp only; omega)) (by first | exact Nat.le_of_ble_eq_true rfl | omega | (dsimp only; omega)) (by first | exact Nat.le_of_ble_eq_true rfl | omega | (dsimp only; omega)) (s_X12_tray G hs (fun hy0 f2_z o6 t6 => ?_) (fun hy0 hy1 f2_z o6 t6 => ?_) (fun hy0 hy1 f2_z j2 o6 t6 o7 a4 a5 => ?_))
    · exact False.elim (by omega)
    · have hI2 := lwI_mf hI1 (frM_su o6 (by decide) (by decide))
      refine r_aloadR2 dL_law_2451 ?_
      refine q_callV0 zm_RL_151 dL_law_2452 (shM_k hs) (by decide) rfl (by first | exact Nat.le_of_ble_eq_true rfl | omega | (dsimp only; omega)) (by first | exact Nat.le_of_ble_eq_true rfl | omega | (dsimp only; omega)) (by first | exact Nat.le_of_ble_eq_true rfl | omega | (dsimp only; omega)) (by first | exact Nat.le_of_ble_eq_true rfl | omega | (dsimp only; omega)) (by first | exact Nat.le_of_ble_eq_true rfl | omega | (dsimp only; omega)) (s_X12_thrown G hs (fun r7 e7_z => ?_))
      have e7i : r7.toInt = (f2_z (X + 239) 4).toInt := by rw [e7_z]
      refine r_iload5 dL_law_2455 ?_
      refine t_iceq (t := 2462) dL_law_2457 (by decide) (fun h2457 => ?_) (fun h2457 => False.elim (by omega))
      refine r_goto (t := 2729) dL_law_2462 (by decide) ?_
      refine kk _ _ _ _ _ _ _ _ _ _ _ _ _ _ ?_ ?_ (lwI_m hI2 (by omega))
      · first | omega | (dsimp only; omega)
      · first | omega | (dsimp only; omega)
    · exact False.elim (by omega)
  · have hC2 := lwC_tray (t := (xs (i + 1)).toInt.toNat) h_z.1 (by omega) (fun q c1_z c2_z => g2 q (by omega)) g3_z g4
    have hM2 := lwM_e (f2_z := f1_z) (j2 := j1) h_z.2 (fun q h1 h2 => g2 q (by omega)) (fun q h1 h2 => g3_z q (by omega))
    have hs := hC2.2.2.2.2.1
    have hI1 := And.intro trivial hM2
    refine r_istore5 dL_law_2427 rfl ?_
    refine r_aloadR2 dL_law_2429 ?_
    refine r_aloadR0 dL_law_2430 ?_
    refine r_iload4 dL_law_2431 ?_
    refine n_iconst dL_law_2433 (by decide) (fun r2433 e2433 => ?_)
    refine n_iadd dL_law_2434 (by omega) (fun r2434 e2434 => ?_)
    refine k_iald (k := i + 1) (v := .int (xs (i + 1))) hT_z (by omega) (by omega) (by omega) rfl dL_law_2435 ?_
    refine r_aloadR0 dL_law_2436 ?_
    refine r_iload4 dL_law_2437 ?_
    refine n_iconst dL_law_2439 (by decide) (fun r2439 e2439 => ?_)
    refine n_iadd dL_law_2440 (by omega) (fun r2440 e2440 => ?_)
    refine k_iald (k := i + 2) (v := .int (xs (i + 2))) hT_z (by omega) (by omega) (by omega) rfl dL_law_2441 ?_
    refine r_aloadR0 dL_law_2442 ?_
    refine r_iload4 dL_law_2443 ?_
    refine n_iconst dL_law_2445 (by decide) (fun r2445 e2445 => ?_)
    refine n_iadd dL_law_2446 (by omega) (fun r2446 e2446 => ?_)
    refine k_iald (k := i + 3) (v := .int (xs (i + 3))) hT_z (by omega) (by omega) (by omega) rfl dL_law_2447 ?_
    refine q_callV3 zm_RL_290 dL_law_2448 (shM_k hs) (by decide) rfl (by decide) (by first | exact Nat.le_of_ble_eq_true rfl | omega | (dsimp only; omega)) (by first | exact Nat.le_of_ble_eq_true rfl | omega | (dsimp only; omega)) (by first | exact Nat.le_of_ble_eq_true rfl | omega | (dsimp only; omega)) (by first | exact Nat.le_of_ble_eq_true rfl | omega | (dsimp only; omega)) (s_X12_tray G hs (fun hy0 f2_z o6 t6 => ?_) (fun hy0 hy1 f2_z o6 t6 => ?_) (fun hy0 hy1 f2_z j2 o6 t6 o7 a4 a5 => ?_))
    · exact False.elim (by omega)
    · exact False.elim (by omega)
    · have hI2 := And.intro (lwC_f hC2 (fun q hq => o6.1 q (by omega)) (fun e => wyI_e e (fun r h1 h2 => o6.1 _ (by omega))) (fun e => wyI_e e (fun r h1 h2 => o6.1 _ (by omega))) (fun q hq => o7 q (by omega))) (lwM_tray hM2 (frM_su o6 (by decide) (by decide)) a4 a5)
      refine r_aloadR2 dL_law_2451 ?_
      refine q_callV0 zm_RL_151 dL_law_2452 (shM_k hs) (by decide) rfl (by first | exact Nat.le_of_ble_eq_true rfl | omega | (dsimp only; omega)) (by first | exact Nat.le_of_ble_eq_true rfl | omega | (dsimp only; omega)) (by first | exact Nat.le_of_ble_eq_true rfl | omega | (dsimp only; omega)) (by first | exact Nat.le_of_ble_eq_true rfl | omega | (dsimp only; omega)) (by first | exact Nat.le_of_ble_eq_true rfl | omega | (dsimp only; omega)) (s_X12_thrown G hs (fun r7 e7_z => ?_))
      have e7i : r7.toInt = (f2_z (X + 239) 4).toInt := by rw [e7_z]
      refine r_iload5 dL_law_2455 ?_
      refine t_iceq (t := 2462) dL_law_2457 (by decide) (fun h2457 => ?_) (fun h2457 => False.elim (by omega))
      refine r_goto (t := 2729) dL_law_2462 (by decide) ?_
      refine kk _ _ _ _ _ _ _ _ _ _ _ _ _ _ ?_ ?_ (lwI_m hI2 (by omega))
      · first | omega | (dsimp only; omega)
      · first | omega | (dsimp only; omega)
set_option maxHeartbeats 4000000 in
set_option maxRecDepth 100000 in
theorem lc_44 {g : zGT} {Rm : Room} {QQ : List Frame → Array Value → State → State → Prop} {hh : List (Nat × Nat × Nat × Nat)} {nm : String} {w : zW} {f : Nat → Nat → Int32} {j : Nat → Nat → Int64} {s X L i N : Nat} {xs : Nat → Int32} {T : zTb} {ty : Nat → zTy} {im : Nat → Option zTb} {p : Nat} {B : Nat → Nat} {th pl : Int} {iv : Int32} {u5 u6 u7 : Option Value} {b : Nat × Nat} (G : zGok g) (hfr : 2048 ≤ Rm.frames) (hlo : 84000 ≤ Rm.locals) (hb1 : b.1 + 951 ≤ Rm.cells) (hb2 : b.2 + 1006 ≤ Rm.slots) (hT_z : ∀ U, g.2.2.2 U → va_T .int s L (fun k => .int (xs k)) (zA g.2.2.1) U U.heap) (hi_z : iv.toInt = (i : Nat)) (hiL : i + 6 ≤ L) (hL : L ≤ 3072) (h_z : lwI w f j X T ty im p B th pl N) (hN_z : N < 1900000000)  (kk : ∀ (T9 : zTb) (ty9 : Nat → zTy) (im9 : Nat → Option zTb) (p9 : Nat) (B9 : Nat → Nat) (th9 pl9 : Int) (u5 u6 u7 : Option Value) w2 f2_z j2 b2, b2.1 ≤ b.1 + 951 → b2.2 ≤ b.2 + 1006 → lwI w2 f2_z j2 X T9 ty9 im9 p9 B9 th9 pl9 (N + 1) → zR (zVg g Rm QQ hh nm 8 (some .boolean)) cL_law RL 2729 [some (.ref s), some (.ref X), some (.ref (X + 239)), some (.ref (X + 260)), some (.int iv), u5, u6, u7] [] (zM w2 f2_z j2) b2) : zR (zVg g Rm QQ hh nm 8 (some .boolean)) cL_law RL 2576 [some (.ref s), some (.ref X), some (.ref (X + 239)), some (.ref (X + 260)), some (.int iv), u5, u6, u7] [] (zM w f j) b := by
  have hx := h_z.1.1
  have hX := shX_k hx
  have hO := h_z.1.2.2.2.1
  have hs := h_z.1.2.2.2.2.1
  have ht := h_z.1.2.2.2.2.2.1
  have hw := tb_wf ht
  have hS2 := h_z.1.2.1
  have hz := h_z.1.2.2.1
  refine r_aloadR1 dL_law_2576 ?_
  refine r_aloadR0 dL_law_2577 ?_
  refine r_iload4 dL_law_2578 ?_
  refine n_iconst dL_law_2580 (by decide) (fun r2580 e2580 => ?_)
  refine n_iadd dL_law_2581 (by omega) (fun r2581 e2581 => ?_)
  refine k_iald (k := i + 1) (v := .int (xs (i + 1))) hT_z (by omega) (by omega) (by omega) rfl dL_law_2582 ?_
  refine r_aloadR3 dL_law_2583 ?_
  refine q_callW (As := [.ref X, .int (xs (i + 1)), .ref (X + 260)]) (rest := []) zw_copy dL_law_2584 rfl rfl (by decide) (by first | exact Nat.le_of_ble_eq_true rfl | omega | (dsimp only; omega)) (by first | exact Nat.le_of_ble_eq_true rfl | omega | (dsimp only; omega)) (by first | exact Nat.le_of_ble_eq_true rfl | omega | (dsimp only; omega)) (by first | exact Nat.le_of_ble_eq_true rfl | omega | (dsimp only; omega)) (w_copy G hX (s_X11_copy G hx ht h_z.1.2.2.2.2.2.2.2.2.1 (fun hc0 n9 hn9 => Or.inl ⟨rfl, fun k1_z ek => ?_⟩) (fun hc0 hc1 n9 hn9 => Or.inr ⟨rfl, fun k1_z ek => ?_⟩) (fun hc0 s8 l8 hc1 rc f1_z j9 ec g2 g3_z g4 => ⟨rc, w, f1_z, j9, rfl, rfl, hO.1, hO.2, fun k1_z y1 ek ey => ?_⟩)))
  · have hI1 := lwI_s (n := n9) h_z hn9
    rw [show zsS (zM w f j) n9 = zM (zsS w n9) f j from rfl]
    have hs := hI1.1.2.2.2.2.1
    have hO := hI1.1.2.2.2.1
    refine r_istore5 dL_law_2587 rfl ?_
    refine r_aloadR2 dL_law_2589 ?_
    refine r_aloadR0 dL_law_2590 ?_
    refine r_iload4 dL_law_2591 ?_
    refine n_iconst dL_law_2593 (by decide) (fun r2593 e2593 => ?_)
    refine n_iadd dL_law_2594 (by omega) (fun r2594 e2594 => ?_)
    refine k_iald (k := i + 1) (v := .int (xs (i + 1))) hT_z (by omega) (by omega) (by omega) rfl dL_law_2595 ?_
    refine q_callV1 zm_RL_299 dL_law_2596 (shM_k hs) (by decide) rfl (by decide) (by first | exact Nat.le_of_ble_eq_true rfl | omega | (dsimp only; omega)) (by first | exact Nat.le_of_ble_eq_true rfl | omega | (dsimp only; omega)) (by first | exact Nat.le_of_ble_eq_true rfl | omega | (dsimp only; omega)) (by first | exact Nat.le_of_ble_eq_true rfl | omega | (dsimp only; omega)) (s_X12_copy G hs hI1.2.1 hw hI1.2.2.1 (fun hy0 r6 f2_z o6 t6 => ?_) (fun hy0 hy1 r6 f2_z o6 t6 => ?_) (fun hy0 s9 l9 hy1 r6 f2_z j2 e6_z o6 t6 o7 a4 a5 => ?_))
    · have hI2 := lwI_mf hI1 (frM_su o6 (by decide) (by decide))
      refine r_istore6 dL_law_2599 rfl ?_
      refine r_aloadR2 dL_law_2601 ?_
      refine q_callV0 zm_RL_151 dL_law_2602 (shM_k hs) (by decide) rfl (by first | exact Nat.le_of_ble_eq_true rfl | omega | (dsimp only; omega)) (by first | exact Nat.le_of_ble_eq_true rfl | omega | (dsimp only; omega)) (by first | exact Nat.le_of_ble_eq_true rfl | omega | (dsimp only; omega)) (by first | exact Nat.le_of_ble_eq_true rfl | omega | (dsimp only; omega)) (by first | exact Nat.le_of_ble_eq_true rfl | omega | (dsimp only; omega)) (s_X12_thrown G hs (fun r7 e7_z => ?_))
      have e7i : r7.toInt = (f2_z (X + 239) 4).toInt := by rw [e7_z]
      refine r_iload5 dL_law_2605 ?_
      refine t_iceq (t := 2612) dL_law_2607 (by decide) (fun h2607 => ?_) (fun h2607 => False.elim (by omega))
      refine r_iload5 dL_law_2612 ?_
      refine t_ifne (t := 2629) dL_law_2614 (by decide) (fun h2614 => ?_) (fun h2614 => False.elim (by omega))
      refine r_goto (t := 2729) dL_law_2629 (by decide) ?_
      refine kk _ _ _ _ _ _ _ _ _ _ _ _ _ _ ?_ ?_ (lwI_m hI2 (by omega))
      · first | omega | (dsimp only; omega)
      · first | omega | (dsimp only; omega)
    · exact False.elim (by first | omega | (rw [hc1] at hy1; cases hy1; done))
    · exact False.elim (by first | omega | (rw [hc1] at hy1; cases hy1; done))
  · have hI1 := lwI_s (n := n9) h_z hn9
    rw [show zsS (zM w f j) n9 = zM (zsS w n9) f j from rfl]
    have hs := hI1.1.2.2.2.2.1
    have hO := hI1.1.2.2.2.1
    refine r_istore5 dL_law_2587 rfl ?_
    refine r_aloadR2 dL_law_2589 ?_
    refine r_aloadR0 dL_law_2590 ?_
    refine r_iload4 dL_law_2591 ?_
    refine n_iconst dL_law_2593 (by decide) (fun r2593 e2593 => ?_)
    refine n_iadd dL_law_2594 (by omega) (fun r2594 e2594 => ?_)
    refine k_iald (k := i + 1) (v := .int (xs (i + 1))) hT_z (by omega) (by omega) (by omega) rfl dL_law_2595 ?_
    refine q_callV1 zm_RL_299 dL_law_2596 (shM_k hs) (by decide) rfl (by decide) (by first | exact Nat.le_of_ble_eq_true rfl | omega | (dsimp only; omega)) (by first | exact Nat.le_of_ble_eq_true rfl | omega | (dsimp only; omega)) (by first | exact Nat.le_of_ble_eq_true rfl | omega | (dsimp only; omega)) (by first | exact Nat.le_of_ble_eq_true rfl | omega | (dsimp only; omega)) (s_X12_copy G hs hI1.2.1 hw hI1.2.2.1 (fun hy0 r6 f2_z o6 t6 => ?_) (fun hy0 hy1 r6 f2_z o6 t6 => ?_) (fun hy0 s9 l9 hy1 r6 f2_z j2 e6_z o6 t6 o7 a4 a5 => ?_))
    · exact False.elim (by first | omega | (rw [hc1] at hy1; cases hy1; done))
    · have hI2 := lwI_mf hI1 (frM_su o6 (by decide) (by decide))
      refine r_istore6 dL_law_2599 rfl ?_
      refine r_aloadR2 dL_law_2601 ?_
      refine q_callV0 zm_RL_151 dL_law_2602 (shM_k hs) (by decide) rfl (by first | exact Nat.le_of_ble_eq_true rfl | omega | (dsimp only; omega)) (by first | exact Nat.le_of_ble_eq_true rfl | omega | (dsimp only; omega)) (by first | exact Nat.le_of_ble_eq_true rfl | omega | (dsimp only; omega)) (by first | exact Nat.le_of_ble_eq_true rfl | omega | (dsimp only; omega)) (by first | exact Nat.le_of_ble_eq_true rfl | omega | (dsimp only; omega)) (s_X12_thrown G hs (fun r7 e7_z => ?_))
      have e7i : r7.toInt = (f2_z (X + 239) 4).toInt := by rw [e7_z]
      refine r_iload5 dL_law_2605 ?_
      refine t_iceq (t := 2612) dL_law_2607 (by decide) (fun h2607 => ?_) (fun h2607 => False.elim (by omega))
      refine r_iload5 dL_law_2612 ?_
      refine t_ifne (t := 2629) dL_law_2614 (by decide) (fun h2614 => ?_) (fun h2614 => False.elim (by omega))
      refine r_goto (t := 2729) dL_law_2629 (by decide) ?_
      refine kk _ _ _ _ _ _ _ _ _ _ _ _ _ _ ?_ ?_ (lwI_m hI2 (by omega))
      · first | omega | (dsimp only; omega)
      · first | omega | (dsimp only; omega)
    · exact False.elim (by first | omega | (rw [hc1] at hy1; cases hy1; done))
  · have hC1 := lwC_tray (t := (xs (i + 1)).toInt.toNat) h_z.1 (by omega) (fun q c1_z c2_z => g2 q (by omega)) g3_z g4
    have hM2 := lwM_e (f2_z := f1_z) (j2 := zu j9 (X + 260) 0 y1) h_z.2 (fun q h1 h2 => g2 q (by omega)) (fun q h1 h2 => (zu_ne (by omega)).trans (g3_z q (by omega)))
    have hC2 := lwC_f (f2_z := f1_z) (j2 := zu j9 (X + 260) 0 y1) hC1 (fun _ _ => rfl) (fun e => e) (fun e => e) (fun q hq => zu_ne (by omega))
    have hs := hC2.2.2.2.2.1
    have hj1 : zu j9 (X + 260) 0 y1 (X + 260) 0 = y1 := zu_at
    obtain ⟨j1, hj⟩ : ∃ j8, j8 = zu j9 (X + 260) 0 y1 := ⟨_, rfl⟩
    rw [← hj] at hC2 hM2 hj1 ⊢
    have hI1 := And.intro trivial hM2
    refine r_istore5 dL_law_2587 rfl ?_
    refine r_aloadR2 dL_law_2589 ?_
    refine r_aloadR0 dL_law_2590 ?_
    refine r_iload4 dL_law_2591 ?_
    refine n_iconst dL_law_2593 (by decide) (fun r2593 e2593 => ?_)
    refine n_iadd dL_law_2594 (by omega) (fun r2594 e2594 => ?_)
    refine k_iald (k := i + 1) (v := .int (xs (i + 1))) hT_z (by omega) (by omega) (by omega) rfl dL_law_2595 ?_
    refine q_callV1 zm_RL_299 dL_law_2596 (shM_k hs) (by decide) rfl (by decide) (by first | exact Nat.le_of_ble_eq_true rfl | omega | (dsimp only; omega)) (by first | exact Nat.le_of_ble_eq_true rfl | omega | (dsimp only; omega)) (by first | exact Nat.le_of_ble_eq_true rfl | omega | (dsimp only; omega)) (by first | exact Nat.le_of_ble_eq_true rfl | omega | (dsimp only; omega)) (s_X12_copy G hs hI1.2.1 hw hI1.2.2.1 (fun hy0 r6 f2_z o6 t6 => ?_) (fun hy0 hy1 r6 f2_z o6 t6 => ?_) (fun hy0 s9 l9 hy1 r6 f2_z j2 e6_z o6 t6 o7 a4 a5 => ?_))
    · exact False.elim (by first | omega | (rw [hc1] at hy1; cases hy1; done))
    · exact False.elim (by first | omega | (rw [hc1] at hy1; cases hy1; done))
    · cases Option.some.inj (hc1.symm.trans hy1)
      have hI2 := And.intro (lwC_f hC2 (fun q hq => o6.1 q (by omega)) (fun e => wyI_e e (fun r h1 h2 => o6.1 _ (by omega))) (fun e => wyI_e e (fun r h1 h2 => o6.1 _ (by omega))) (fun q hq => o7 q (by omega))) (lwM_tray hM2 (frM_su o6 (by decide) (by decide)) a4 a5)
      have hl2 : (j2 (X + 260) 0).toInt = y1.toInt := by rw [o7 (X + 260) (by omega), hj1]
      have he9 : rc.toInt = r6.toInt := by rw [ec, e6_z]
      refine r_istore6 dL_law_2599 rfl ?_
      refine r_aloadR2 dL_law_2601 ?_
      refine q_callV0 zm_RL_151 dL_law_2602 (shM_k hs) (by decide) rfl (by first | exact Nat.le_of_ble_eq_true rfl | omega | (dsimp only; omega)) (by first | exact Nat.le_of_ble_eq_true rfl | omega | (dsimp only; omega)) (by first | exact Nat.le_of_ble_eq_true rfl | omega | (dsimp only; omega)) (by first | exact Nat.le_of_ble_eq_true rfl | omega | (dsimp only; omega)) (by first | exact Nat.le_of_ble_eq_true rfl | omega | (dsimp only; omega)) (s_X12_thrown G hs (fun r7 e7_z => ?_))
      have e7i : r7.toInt = (f2_z (X + 239) 4).toInt := by rw [e7_z]
      refine r_iload5 dL_law_2605 ?_
      refine t_iceq (t := 2612) dL_law_2607 (by decide) (fun h2607 => ?_) (fun h2607 => False.elim (by omega))
      refine r_iload5 dL_law_2612 ?_
      refine t_ifne (t := 2629) dL_law_2614 (by decide) (fun h2614 => False.elim (by omega)) (fun h2614 => ?_)
      refine r_aloadR3 dL_law_2617 ?_
      refine n_iconst dL_law_2618 (by decide) (fun r2618 e2618 => ?_)
      refine m_lald (k := 0) (x := (j2 (X + 260) 0)) dL_law_2619 hO.1 hO.2 (by omega) (by omega) (rfl) ?_
      refine r_iload6 dL_law_2620 ?_
      refine n_i2l dL_law_2622 (fun r2622 e2622 => ?_)
      refine n_lcmp dL_law_2623 (fun r2623 e2623 => ?_)
      unfold zcmp at e2623
      refine t_ifeq (t := 2629) dL_law_2624 (by decide) (fun h2624 => ?_) (fun h2624 => False.elim (by omega))
      refine r_goto (t := 2729) dL_law_2629 (by decide) ?_
      refine kk _ _ _ _ _ _ _ _ _ _ _ _ _ _ ?_ ?_ (lwI_m hI2 (by omega))
      · first | omega | (dsimp only; omega)
      · first | omega | (dsimp only; omega)
set_option maxHeartbeats 4000000 in
set_option maxRecDepth 100000 in
theorem lc_43 {g : zGT} {Rm : Room} {QQ : List Frame → Array Value → State → State → Prop} {hh : List (Nat × Nat × Nat × Nat)} {nm : String} {w : zW} {f : Nat → Nat → Int32} {j : Nat → Nat → Int64} {s X L i N : Nat} {xs : Nat → Int32} {T : zTb} {ty : Nat → zTy} {im : Nat → Option zTb} {p : Nat} {B : Nat → Nat} {th pl : Int} {iv : Int32} {u5 u6 u7 : Option Value} {b : Nat × Nat} (G : zGok g) (hfr : 2048 ≤ Rm.frames) (hlo : 84000 ≤ Rm.locals) (hb1 : b.1 + 951 ≤ Rm.cells) (hb2 : b.2 + 1006 ≤ Rm.slots) (hT_z : ∀ U, g.2.2.2 U → va_T .int s L (fun k => .int (xs k)) (zA g.2.2.1) U U.heap) (hi_z : iv.toInt = (i : Nat)) (hiL : i + 6 ≤ L) (hL : L ≤ 3072) (h_z : lwI w f j X T ty im p B th pl N) (hN_z : N < 1900000000)  (kk : ∀ (T9 : zTb) (ty9 : Nat → zTy) (im9 : Nat → Option zTb) (p9 : Nat) (B9 : Nat → Nat) (th9 pl9 : Int) (u5 u6 u7 : Option Value) w2 f2_z j2 b2, b2.1 ≤ b.1 + 951 → b2.2 ≤ b.2 + 1006 → lwI w2 f2_z j2 X T9 ty9 im9 p9 B9 th9 pl9 (N + 1) → zR (zVg g Rm QQ hh nm 8 (some .boolean)) cL_law RL 2729 [some (.ref s), some (.ref X), some (.ref (X + 239)), some (.ref (X + 260)), some (.int iv), u5, u6, u7] [] (zM w2 f2_z j2) b2) : zR (zVg g Rm QQ hh nm 8 (some .boolean)) cL_law RL 2465 [some (.ref s), some (.ref X), some (.ref (X + 239)), some (.ref (X + 260)), some (.int iv), u5, u6, u7] [] (zM w f j) b := by
  have hx := h_z.1.1
  have hX := shX_k hx
  have hO := h_z.1.2.2.2.1
  have hs := h_z.1.2.2.2.2.1
  have ht := h_z.1.2.2.2.2.2.1
  have hw := tb_wf ht
  have hS2 := h_z.1.2.1
  have hz := h_z.1.2.2.1
  refine r_aloadR1 dL_law_2465 ?_
  refine r_aloadR0 dL_law_2466 ?_
  refine r_iload4 dL_law_2467 ?_
  refine n_iconst dL_law_2469 (by decide) (fun r2469 e2469 => ?_)
  refine n_iadd dL_law_2470 (by omega) (fun r2470 e2470 => ?_)
  refine k_iald (k := i + 1) (v := .int (xs (i + 1))) hT_z (by omega) (by omega) (by omega) rfl dL_law_2471 ?_
  refine r_aloadR0 dL_law_2472 ?_
  refine r_iload4 dL_law_2473 ?_
  refine n_iconst dL_law_2475 (by decide) (fun r2475 e2475 => ?_)
  refine n_iadd dL_law_2476 (by omega) (fun r2476 e2476 => ?_)
  refine k_iald (k := i + 2) (v := .int (xs (i + 2))) hT_z (by omega) (by omega) (by omega) rfl dL_law_2477 ?_
  refine r_aloadR0 dL_law_2478 ?_
  refine r_iload4 dL_law_2479 ?_
  refine n_iconst dL_law_2481 (by decide) (fun r2481 e2481 => ?_)
  refine n_iadd dL_law_2482 (by omega) (fun r2482 e2482 => ?_)
  refine k_iald (k := i + 3) (v := .int (xs (i + 3))) hT_z (by omega) (by omega) (by omega) rfl dL_law_2483 ?_
  refine n_i2l dL_law_2484 (fun r2484 e2484 => ?_)
  refine n_bipush dL_law_2485 (by decide) (fun r2485 e2485 => ?_)
  refine r_lshl dL_law_2487 ?_
  refine n_nameJ (fun r2487 e2487 => ?_)
  refine r_aloadR0 dL_law_2488 ?_
  refine r_iload4 dL_law_2489 ?_
  refine n_iconst dL_law_2491 (by decide) (fun r2491 e2491 => ?_)
  refine n_iadd dL_law_2492 (by omega) (fun r2492 e2492 => ?_)
  refine k_iald (k := i + 4) (v := .int (xs (i + 4))) hT_z (by omega) (by omega) (by omega) rfl dL_law_2493 ?_
  refine n_i2l dL_law_2494 (fun r2494 e2494 => ?_)
  refine n_ldc2 (n := 4294967295) zk_RL_291 dL_law_2495 (by decide) (fun r2495 e2495 => ?_)
  refine r_land dL_law_2498 ?_
  refine n_nameJ (fun r2498 e2498 => ?_)
  refine r_lor dL_law_2499 ?_
  refine n_nameJ (fun r2499 e2499 => ?_)
  refine r_aloadR3 dL_law_2500 ?_
  refine q_callW (As := [.ref X, .int (xs (i + 1)), .int (xs (i + 2)), .long r2499, .ref (X + 260)]) (rest := []) zw_write dL_law_2501 rfl rfl (by decide) (by first | exact Nat.le_of_ble_eq_true rfl | omega | (dsimp only; omega)) (by first | exact Nat.le_of_ble_eq_true rfl | omega | (dsimp only; omega)) (by first | exact Nat.le_of_ble_eq_true rfl | omega | (dsimp only; omega)) (by first | exact Nat.le_of_ble_eq_true rfl | omega | (dsimp only; omega)) (w_write G hX (s_X11_write G hx h_z.1.2.2.2.2.2.2.2.2.1 (fun hc0 n9 hn9 => Or.inl ⟨rfl, fun k1_z ek => ?_⟩) (fun hc0 hc1 n9 hn9 => Or.inr (Or.inl ⟨rfl, fun k1_z ek => ?_⟩)) (fun hc0 s8 l8 hc1 hc2 n9 hn9 => Or.inr (Or.inr ⟨rfl, fun k1_z ek => ?_⟩)) (fun hc0 s8 l8 hc1 hc2 rc j9 ec g3_z g4 => ⟨rc, w, f, j9, rfl, rfl, hO.1, hO.2, fun k1_z ek => ?_⟩)))
  · have hI1 := lwI_s (n := n9) h_z hn9
    rw [show zsS (zM w f j) n9 = zM (zsS w n9) f j from rfl]
    have hs := hI1.1.2.2.2.2.1
    have hO := hI1.1.2.2.2.1
    refine r_istore5 dL_law_2504 rfl ?_
    refine r_aloadR2 dL_law_2506 ?_
    refine r_aloadR0 dL_law_2507 ?_
    refine r_iload4 dL_law_2508 ?_
    refine n_iconst dL_law_2510 (by decide) (fun r2510 e2510 => ?_)
    refine n_iadd dL_law_2511 (by omega) (fun r2511 e2511 => ?_)
    refine k_iald (k := i + 1) (v := .int (xs (i + 1))) hT_z (by omega) (by omega) (by omega) rfl dL_law_2512 ?_
    refine r_aloadR0 dL_law_2513 ?_
    refine r_iload4 dL_law_2514 ?_
    refine n_iconst dL_law_2516 (by decide) (fun r2516 e2516 => ?_)
    refine n_iadd dL_law_2517 (by omega) (fun r2517 e2517 => ?_)
    refine k_iald (k := i + 2) (v := .int (xs (i + 2))) hT_z (by omega) (by omega) (by omega) rfl dL_law_2518 ?_
    refine r_aloadR0 dL_law_2519 ?_
    refine r_iload4 dL_law_2520 ?_
    refine n_iconst dL_law_2522 (by decide) (fun r2522 e2522 => ?_)
    refine n_iadd dL_law_2523 (by omega) (fun r2523 e2523 => ?_)
    refine k_iald (k := i + 3) (v := .int (xs (i + 3))) hT_z (by omega) (by omega) (by omega) rfl dL_law_2524 ?_
    refine n_i2l dL_law_2525 (fun r2525 e2525 => ?_)
    refine n_bipush dL_law_2526 (by decide) (fun r2526 e2526 => ?_)
    refine r_lshl dL_law_2528 ?_
    refine n_nameJ (fun r2528 e2528 => ?_)
    refine r_aloadR0 dL_law_2529 ?_
    refine r_iload4 dL_law_2530 ?_
    refine n_iconst dL_law_2532 (by decide) (fun r2532 e2532 => ?_)
    refine n_iadd dL_law_2533 (by omega) (fun r2533 e2533 => ?_)
    refine k_iald (k := i + 4) (v := .int (xs (i + 4))) hT_z (by omega) (by omega) (by omega) rfl dL_law_2534 ?_
    refine n_i2l dL_law_2535 (fun r2535 e2535 => ?_)
    refine n_ldc2 (n := 4294967295) zk_RL_291 dL_law_2536 (by decide) (fun r2536 e2536 => ?_)
    refine r_land dL_law_2539 ?_
    refine n_nameJ (fun r2539 e2539 => ?_)
    refine r_lor dL_law_2540 ?_
    refine n_nameJ (fun r2540 e2540 => ?_)
    have hv : r2540 = r2499 := by rw [e2540, e2528, e2539, e2499, e2487, e2498, show r2525 = r2484 from Int64.toInt_inj.mp (by omega), show r2526 = r2485 from Int32.toInt_inj.mp (by omega), show r2535 = r2494 from Int64.toInt_inj.mp (by omega), show r2536 = r2495 from Int64.toInt_inj.mp (by omega)]
    refine q_callV3 zm_RL_296 dL_law_2541 (shM_k hs) (by decide) rfl (by decide) (by first | exact Nat.le_of_ble_eq_true rfl | omega | (dsimp only; omega)) (by first | exact Nat.le_of_ble_eq_true rfl | omega | (dsimp only; omega)) (by first | exact Nat.le_of_ble_eq_true rfl | omega | (dsimp only; omega)) (by first | exact Nat.le_of_ble_eq_true rfl | omega | (dsimp only; omega)) (s_X12_write G hs hI1.2.2.1 (fun hy0 r6 f2_z o6 t6 => ?_) (fun hy0 hy1 r6 f2_z o6 t6 => ?_) (fun hy0 s9 l9 hy1 hy2 r6 f2_z o6 t6 => ?_) (fun hy0 s9 l9 hy1 hy2 r6 f2_z j2 e6_z o6 t6 o7 a4 a5 => ?_))
    · have hI2 := lwI_mf hI1 (frM_su o6 (by decide) (by decide))
      refine r_lstore6 dL_law_2544 rfl ?_
      refine r_aloadR2 dL_law_2546 ?_
      refine q_callV0 zm_RL_151 dL_law_2547 (shM_k hs) (by decide) rfl (by first | exact Nat.le_of_ble_eq_true rfl | omega | (dsimp only; omega)) (by first | exact Nat.le_of_ble_eq_true rfl | omega | (dsimp only; omega)) (by first | exact Nat.le_of_ble_eq_true rfl | omega | (dsimp only; omega)) (by first | exact Nat.le_of_ble_eq_true rfl | omega | (dsimp only; omega)) (by first | exact Nat.le_of_ble_eq_true rfl | omega | (dsimp only; omega)) (s_X12_thrown G hs (fun r7 e7_z => ?_))
      have e7i : r7.toInt = (f2_z (X + 239) 4).toInt := by rw [e7_z]
      refine r_iload5 dL_law_2550 ?_
      refine t_iceq (t := 2557) dL_law_2552 (by decide) (fun h2552 => ?_) (fun h2552 => False.elim (by omega))
      refine r_iload5 dL_law_2557 ?_
      refine t_ifne (t := 2573) dL_law_2559 (by decide) (fun h2559 => ?_) (fun h2559 => False.elim (by omega))
      refine r_goto (t := 2729) dL_law_2573 (by decide) ?_
      refine kk _ _ _ _ _ _ _ _ _ _ _ _ _ _ ?_ ?_ (lwI_m hI2 (by omega))
      · first | omega | (dsimp only; omega)
      · first | omega | (dsimp only; omega)
    · exact False.elim (by first | omega | (rw [hc1] at hy1; cases hy1; done) | exact hc1 hy1 | exact hy1 hc1 | (cases Option.some.inj (hc1.symm.trans hy1); first | exact hc2 hy2 | exact hy2 hc2))
    · exact False.elim (by first | omega | (rw [hc1] at hy1; cases hy1; done) | exact hc1 hy1 | exact hy1 hc1 | (cases Option.some.inj (hc1.symm.trans hy1); first | exact hc2 hy2 | exact hy2 hc2))
    · exact False.elim (by first | omega | (rw [hc1] at hy1; cases hy1; done) | exact hc1 hy1 | exact hy1 hc1 | (cases Option.some.inj (hc1.symm.trans hy1); first | exact hc2 hy2 | exact hy2 hc2))
  · have hI1 := lwI_s (n := n9) h_z hn9
    rw [show zsS (zM w f j) n9 = zM (zsS w n9) f j from rfl]
    have hs := hI1.1.2.2.2.2.1
    have hO := hI1.1.2.2.2.1
    refine r_istore5 dL_law_2504 rfl ?_
    refine r_aloadR2 dL_law_2506 ?_
    refine r_aloadR0 dL_law_2507 ?_
    refine r_iload4 dL_law_2508 ?_
    refine n_iconst dL_law_2510 (by decide) (fun r2510 e2510 => ?_)
    refine n_iadd dL_law_2511 (by omega) (fun r2511 e2511 => ?_)
    refine k_iald (k := i + 1) (v := .int (xs (i + 1))) hT_z (by omega) (by omega) (by omega) rfl dL_law_2512 ?_
    refine r_aloadR0 dL_law_2513 ?_
    refine r_iload4 dL_law_2514 ?_
    refine n_iconst dL_law_2516 (by decide) (fun r2516 e2516 => ?_)
    refine n_iadd dL_law_2517 (by omega) (fun r2517 e2517 => ?_)
    refine k_iald (k := i + 2) (v := .int (xs (i + 2))) hT_z (by omega) (by omega) (by omega) rfl dL_law_2518 ?_
    refine r_aloadR0 dL_law_2519 ?_
    refine r_iload4 dL_law_2520 ?_
    refine n_iconst dL_law_2522 (by decide) (fun r2522 e2522 => ?_)
    refine n_iadd dL_law_2523 (by omega) (fun r2523 e2523 => ?_)
    refine k_iald (k := i + 3) (v := .int (xs (i + 3))) hT_z (by omega) (by omega) (by omega) rfl dL_law_2524 ?_
    refine n_i2l dL_law_2525 (fun r2525 e2525 => ?_)
    refine n_bipush dL_law_2526 (by decide) (fun r2526 e2526 => ?_)
    refine r_lshl dL_law_2528 ?_
    refine n_nameJ (fun r2528 e2528 => ?_)
    refine r_aloadR0 dL_law_2529 ?_
    refine r_iload4 dL_law_2530 ?_
    refine n_iconst dL_law_2532 (by decide) (fun r2532 e2532 => ?_)
    refine n_iadd dL_law_2533 (by omega) (fun r2533 e2533 => ?_)
    refine k_iald (k := i + 4) (v := .int (xs (i + 4))) hT_z (by omega) (by omega) (by omega) rfl dL_law_2534 ?_
    refine n_i2l dL_law_2535 (fun r2535 e2535 => ?_)
    refine n_ldc2 (n := 4294967295) zk_RL_291 dL_law_2536 (by decide) (fun r2536 e2536 => ?_)
    refine r_land dL_law_2539 ?_
    refine n_nameJ (fun r2539 e2539 => ?_)
    refine r_lor dL_law_2540 ?_
    refine n_nameJ (fun r2540 e2540 => ?_)
    have hv : r2540 = r2499 := by rw [e2540, e2528, e2539, e2499, e2487, e2498, show r2525 = r2484 from Int64.toInt_inj.mp (by omega), show r2526 = r2485 from Int32.toInt_inj.mp (by omega), show r2535 = r2494 from Int64.toInt_inj.mp (by omega), show r2536 = r2495 from Int64.toInt_inj.mp (by omega)]
    refine q_callV3 zm_RL_296 dL_law_2541 (shM_k hs) (by decide) rfl (by decide) (by first | exact Nat.le_of_ble_eq_true rfl | omega | (dsimp only; omega)) (by first | exact Nat.le_of_ble_eq_true rfl | omega | (dsimp only; omega)) (by first | exact Nat.le_of_ble_eq_true rfl | omega | (dsimp only; omega)) (by first | exact Nat.le_of_ble_eq_true rfl | omega | (dsimp only; omega)) (s_X12_write G hs hI1.2.2.1 (fun hy0 r6 f2_z o6 t6 => ?_) (fun hy0 hy1 r6 f2_z o6 t6 => ?_) (fun hy0 s9 l9 hy1 hy2 r6 f2_z o6 t6 => ?_) (fun hy0 s9 l9 hy1 hy2 r6 f2_z j2 e6_z o6 t6 o7 a4 a5 => ?_))
    · exact False.elim (by first | omega | (rw [hc1] at hy1; cases hy1; done) | exact hc1 hy1 | exact hy1 hc1 | (cases Option.some.inj (hc1.symm.trans hy1); first | exact hc2 hy2 | exact hy2 hc2))
    · have hI2 := lwI_mf hI1 (frM_su o6 (by decide) (by decide))
      refine r_lstore6 dL_law_2544 rfl ?_
      refine r_aloadR2 dL_law_2546 ?_
      refine q_callV0 zm_RL_151 dL_law_2547 (shM_k hs) (by decide) rfl (by first | exact Nat.le_of_ble_eq_true rfl | omega | (dsimp only; omega)) (by first | exact Nat.le_of_ble_eq_true rfl | omega | (dsimp only; omega)) (by first | exact Nat.le_of_ble_eq_true rfl | omega | (dsimp only; omega)) (by first | exact Nat.le_of_ble_eq_true rfl | omega | (dsimp only; omega)) (by first | exact Nat.le_of_ble_eq_true rfl | omega | (dsimp only; omega)) (s_X12_thrown G hs (fun r7 e7_z => ?_))
      have e7i : r7.toInt = (f2_z (X + 239) 4).toInt := by rw [e7_z]
      refine r_iload5 dL_law_2550 ?_
      refine t_iceq (t := 2557) dL_law_2552 (by decide) (fun h2552 => ?_) (fun h2552 => False.elim (by omega))
      refine r_iload5 dL_law_2557 ?_
      refine t_ifne (t := 2573) dL_law_2559 (by decide) (fun h2559 => ?_) (fun h2559 => False.elim (by omega))
      refine r_goto (t := 2729) dL_law_2573 (by decide) ?_
      refine kk _ _ _ _ _ _ _ _ _ _ _ _ _ _ ?_ ?_ (lwI_m hI2 (by omega))
      · first | omega | (dsimp only; omega)
      · first | omega | (dsimp only; omega)
    · exact False.elim (by first | omega | (rw [hc1] at hy1; cases hy1; done) | exact hc1 hy1 | exact hy1 hc1 | (cases Option.some.inj (hc1.symm.trans hy1); first | exact hc2 hy2 | exact hy2 hc2))
    · exact False.elim (by first | omega | (rw [hc1] at hy1; cases hy1; done) | exact hc1 hy1 | exact hy1 hc1 | (cases Option.some.inj (hc1.symm.trans hy1); first | exact hc2 hy2 | exact hy2 hc2))
  · have hI1 := lwI_s (n := n9) h_z hn9
    rw [show zsS (zM w f j) n9 = zM (zsS w n9) f j from rfl]
    have hs := hI1.1.2.2.2.2.1
    have hO := hI1.1.2.2.2.1
    refine r_istore5 dL_law_2504 rfl ?_
    refine r_aloadR2 dL_law_2506 ?_
    refine r_aloadR0 dL_law_2507 ?_
    refine r_iload4 dL_law_2508 ?_
    refine n_iconst dL_law_2510 (by decide) (fun r2510 e2510 => ?_)
    refine n_iadd dL_law_2511 (by omega) (fun r2511 e2511 => ?_)
    refine k_iald (k := i + 1) (v := .int (xs (i + 1))) hT_z (by omega) (by omega) (by omega) rfl dL_law_2512 ?_
    refine r_aloadR0 dL_law_2513 ?_
    refine r_iload4 dL_law_2514 ?_
    refine n_iconst dL_law_2516 (by decide) (fun r2516 e2516 => ?_)
    refine n_iadd dL_law_2517 (by omega) (fun r2517 e2517 => ?_)
    refine k_iald (k := i + 2) (v := .int (xs (i + 2))) hT_z (by omega) (by omega) (by omega) rfl dL_law_2518 ?_
    refine r_aloadR0 dL_law_2519 ?_
    refine r_iload4 dL_law_2520 ?_
    refine n_iconst dL_law_2522 (by decide) (fun r2522 e2522 => ?_)
    refine n_iadd dL_law_2523 (by omega) (fun r2523 e2523 => ?_)
    refine k_iald (k := i + 3) (v := .int (xs (i + 3))) hT_z (by omega) (by omega) (by omega) rfl dL_law_2524 ?_
    refine n_i2l dL_law_2525 (fun r2525 e2525 => ?_)
    refine n_bipush dL_law_2526 (by decide) (fun r2526 e2526 => ?_)
    refine r_lshl dL_law_2528 ?_
    refine n_nameJ (fun r2528 e2528 => ?_)
    refine r_aloadR0 dL_law_2529 ?_
    refine r_iload4 dL_law_2530 ?_
    refine n_iconst dL_law_2532 (by decide) (fun r2532 e2532 => ?_)
    refine n_iadd dL_law_2533 (by omega) (fun r2533 e2533 => ?_)
    refine k_iald (k := i + 4) (v := .int (xs (i + 4))) hT_z (by omega) (by omega) (by omega) rfl dL_law_2534 ?_
    refine n_i2l dL_law_2535 (fun r2535 e2535 => ?_)
    refine n_ldc2 (n := 4294967295) zk_RL_291 dL_law_2536 (by decide) (fun r2536 e2536 => ?_)
    refine r_land dL_law_2539 ?_
    refine n_nameJ (fun r2539 e2539 => ?_)
    refine r_lor dL_law_2540 ?_
    refine n_nameJ (fun r2540 e2540 => ?_)
    have hv : r2540 = r2499 := by rw [e2540, e2528, e2539, e2499, e2487, e2498, show r2525 = r2484 from Int64.toInt_inj.mp (by omega), show r2526 = r2485 from Int32.toInt_inj.mp (by omega), show r2535 = r2494 from Int64.toInt_inj.mp (by omega), show r2536 = r2495 from Int64.toInt_inj.mp (by omega)]
    refine q_callV3 zm_RL_296 dL_law_2541 (shM_k hs) (by decide) rfl (by decide) (by first | exact Nat.le_of_ble_eq_true rfl | omega | (dsimp only; omega)) (by first | exact Nat.le_of_ble_eq_true rfl | omega | (dsimp only; omega)) (by first | exact Nat.le_of_ble_eq_true rfl | omega | (dsimp only; omega)) (by first | exact Nat.le_of_ble_eq_true rfl | omega | (dsimp only; omega)) (s_X12_write G hs hI1.2.2.1 (fun hy0 r6 f2_z o6 t6 => ?_) (fun hy0 hy1 r6 f2_z o6 t6 => ?_) (fun hy0 s9 l9 hy1 hy2 r6 f2_z o6 t6 => ?_) (fun hy0 s9 l9 hy1 hy2 r6 f2_z j2 e6_z o6 t6 o7 a4 a5 => ?_))
    · exact False.elim (by first | omega | (rw [hc1] at hy1; cases hy1; done) | exact hc1 hy1 | exact hy1 hc1 | (cases Option.some.inj (hc1.symm.trans hy1); first | exact hc2 hy2 | exact hy2 hc2))
    · exact False.elim (by first | omega | (rw [hc1] at hy1; cases hy1; done) | exact hc1 hy1 | exact hy1 hc1 | (cases Option.some.inj (hc1.symm.trans hy1); first | exact hc2 hy2 | exact hy2 hc2))
    · cases Option.some.inj (hc1.symm.trans hy1)
      have hI2 := lwI_mf hI1 (frM_su o6 (by decide) (by decide))
      refine r_lstore6 dL_law_2544 rfl ?_
      refine r_aloadR2 dL_law_2546 ?_
      refine q_callV0 zm_RL_151 dL_law_2547 (shM_k hs) (by decide) rfl (by first | exact Nat.le_of_ble_eq_true rfl | omega | (dsimp only; omega)) (by first | exact Nat.le_of_ble_eq_true rfl | omega | (dsimp only; omega)) (by first | exact Nat.le_of_ble_eq_true rfl | omega | (dsimp only; omega)) (by first | exact Nat.le_of_ble_eq_true rfl | omega | (dsimp only; omega)) (by first | exact Nat.le_of_ble_eq_true rfl | omega | (dsimp only; omega)) (s_X12_thrown G hs (fun r7 e7_z => ?_))
      have e7i : r7.toInt = (f2_z (X + 239) 4).toInt := by rw [e7_z]
      refine r_iload5 dL_law_2550 ?_
      refine t_iceq (t := 2557) dL_law_2552 (by decide) (fun h2552 => ?_) (fun h2552 => False.elim (by omega))
      refine r_iload5 dL_law_2557 ?_
      refine t_ifne (t := 2573) dL_law_2559 (by decide) (fun h2559 => ?_) (fun h2559 => False.elim (by omega))
      refine r_goto (t := 2729) dL_law_2573 (by decide) ?_
      refine kk _ _ _ _ _ _ _ _ _ _ _ _ _ _ ?_ ?_ (lwI_m hI2 (by omega))
      · first | omega | (dsimp only; omega)
      · first | omega | (dsimp only; omega)
    · exact False.elim (by first | omega | (rw [hc1] at hy1; cases hy1; done) | exact hc1 hy1 | exact hy1 hc1 | (cases Option.some.inj (hc1.symm.trans hy1); first | exact hc2 hy2 | exact hy2 hc2))
  · have hC1 := lwC_tray (t := (xs (i + 1)).toInt.toNat) (f2_z := f) h_z.1 (by omega) (fun q c1_z c2_z => rfl) g3_z g4
    have hM2 := lwM_e (f2_z := f) (j2 := zu j9 (X + 260) 0 rc) h_z.2 (fun q h1 h2 => rfl) (fun q h1 h2 => (zu_ne (by omega)).trans (g3_z q (by omega)))
    have hC2 := lwC_f (f2_z := f) (j2 := zu j9 (X + 260) 0 rc) hC1 (fun _ _ => rfl) (fun e => e) (fun e => e) (fun q hq => zu_ne (by omega))
    have hs := hC2.2.2.2.2.1
    have hj1 : zu j9 (X + 260) 0 rc (X + 260) 0 = rc := zu_at
    obtain ⟨j1, hj⟩ : ∃ j8, j8 = zu j9 (X + 260) 0 rc := ⟨_, rfl⟩
    rw [← hj] at hC2 hM2 hj1 ⊢
    have hI1 := And.intro trivial hM2
    refine r_istore5 dL_law_2504 rfl ?_
    refine r_aloadR2 dL_law_2506 ?_
    refine r_aloadR0 dL_law_2507 ?_
    refine r_iload4 dL_law_2508 ?_
    refine n_iconst dL_law_2510 (by decide) (fun r2510 e2510 => ?_)
    refine n_iadd dL_law_2511 (by omega) (fun r2511 e2511 => ?_)
    refine k_iald (k := i + 1) (v := .int (xs (i + 1))) hT_z (by omega) (by omega) (by omega) rfl dL_law_2512 ?_
    refine r_aloadR0 dL_law_2513 ?_
    refine r_iload4 dL_law_2514 ?_
    refine n_iconst dL_law_2516 (by decide) (fun r2516 e2516 => ?_)
    refine n_iadd dL_law_2517 (by omega) (fun r2517 e2517 => ?_)
    refine k_iald (k := i + 2) (v := .int (xs (i + 2))) hT_z (by omega) (by omega) (by omega) rfl dL_law_2518 ?_
    refine r_aloadR0 dL_law_2519 ?_
    refine r_iload4 dL_law_2520 ?_
    refine n_iconst dL_law_2522 (by decide) (fun r2522 e2522 => ?_)
    refine n_iadd dL_law_2523 (by omega) (fun r2523 e2523 => ?_)
    refine k_iald (k := i + 3) (v := .int (xs (i + 3))) hT_z (by omega) (by omega) (by omega) rfl dL_law_2524 ?_
    refine n_i2l dL_law_2525 (fun r2525 e2525 => ?_)
    refine n_bipush dL_law_2526 (by decide) (fun r2526 e2526 => ?_)
    refine r_lshl dL_law_2528 ?_
    refine n_nameJ (fun r2528 e2528 => ?_)
    refine r_aloadR0 dL_law_2529 ?_
    refine r_iload4 dL_law_2530 ?_
    refine n_iconst dL_law_2532 (by decide) (fun r2532 e2532 => ?_)
    refine n_iadd dL_law_2533 (by omega) (fun r2533 e2533 => ?_)
    refine k_iald (k := i + 4) (v := .int (xs (i + 4))) hT_z (by omega) (by omega) (by omega) rfl dL_law_2534 ?_
    refine n_i2l dL_law_2535 (fun r2535 e2535 => ?_)
    refine n_ldc2 (n := 4294967295) zk_RL_291 dL_law_2536 (by decide) (fun r2536 e2536 => ?_)
    refine r_land dL_law_2539 ?_
    refine n_nameJ (fun r2539 e2539 => ?_)
    refine r_lor dL_law_2540 ?_
    refine n_nameJ (fun r2540 e2540 => ?_)
    have hv : r2540 = r2499 := by rw [e2540, e2528, e2539, e2499, e2487, e2498, show r2525 = r2484 from Int64.toInt_inj.mp (by omega), show r2526 = r2485 from Int32.toInt_inj.mp (by omega), show r2535 = r2494 from Int64.toInt_inj.mp (by omega), show r2536 = r2495 from Int64.toInt_inj.mp (by omega)]
    refine q_callV3 zm_RL_296 dL_law_2541 (shM_k hs) (by decide) rfl (by decide) (by first | exact Nat.le_of_ble_eq_true rfl | omega | (dsimp only; omega)) (by first | exact Nat.le_of_ble_eq_true rfl | omega | (dsimp only; omega)) (by first | exact Nat.le_of_ble_eq_true rfl | omega | (dsimp only; omega)) (by first | exact Nat.le_of_ble_eq_true rfl | omega | (dsimp only; omega)) (s_X12_write G hs hI1.2.2.1 (fun hy0 r6 f2_z o6 t6 => ?_) (fun hy0 hy1 r6 f2_z o6 t6 => ?_) (fun hy0 s9 l9 hy1 hy2 r6 f2_z o6 t6 => ?_) (fun hy0 s9 l9 hy1 hy2 r6 f2_z j2 e6_z o6 t6 o7 a4 a5 => ?_))
    · exact False.elim (by first | omega | (rw [hc1] at hy1; cases hy1; done) | exact hc1 hy1 | exact hy1 hc1 | (cases Option.some.inj (hc1.symm.trans hy1); first | exact hc2 hy2 | exact hy2 hc2))
    · exact False.elim (by first | omega | (rw [hc1] at hy1; cases hy1; done) | exact hc1 hy1 | exact hy1 hc1 | (cases Option.some.inj (hc1.symm.trans hy1); first | exact hc2 hy2 | exact hy2 hc2))
    · exact False.elim (by first | omega | (rw [hc1] at hy1; cases hy1; done) | exact hc1 hy1 | exact hy1 hc1 | (cases Option.some.inj (hc1.symm.trans hy1); first | exact hc2 hy2 | exact hy2 hc2))
    · cases Option.some.inj (hc1.symm.trans hy1)
      rw [hv] at e6_z a4
      have hI2 := And.intro (lwC_f hC2 (fun q hq => o6.1 q (by omega)) (fun e => wyI_e e (fun r h1 h2 => o6.1 _ (by omega))) (fun e => wyI_e e (fun r h1 h2 => o6.1 _ (by omega))) (fun q hq => o7 q (by omega))) (lwM_tray hM2 (frM_su o6 (by decide) (by decide)) a4 a5)
      have hl2 : (j2 (X + 260) 0).toInt = rc.toInt := by rw [o7 (X + 260) (by omega), hj1]
      have he9 : rc.toInt = r6.toInt := by rw [ec, e6_z]
      refine r_lstore6 dL_law_2544 rfl ?_
      refine r_aloadR2 dL_law_2546 ?_
      refine q_callV0 zm_RL_151 dL_law_2547 (shM_k hs) (by decide) rfl (by first | exact Nat.le_of_ble_eq_true rfl | omega | (dsimp only; omega)) (by first | exact Nat.le_of_ble_eq_true rfl | omega | (dsimp only; omega)) (by first | exact Nat.le_of_ble_eq_true rfl | omega | (dsimp only; omega)) (by first | exact Nat.le_of_ble_eq_true rfl | omega | (dsimp only; omega)) (by first | exact Nat.le_of_ble_eq_true rfl | omega | (dsimp only; omega)) (s_X12_thrown G hs (fun r7 e7_z => ?_))
      have e7i : r7.toInt = (f2_z (X + 239) 4).toInt := by rw [e7_z]
      refine r_iload5 dL_law_2550 ?_
      refine t_iceq (t := 2557) dL_law_2552 (by decide) (fun h2552 => ?_) (fun h2552 => False.elim (by omega))
      refine r_iload5 dL_law_2557 ?_
      refine t_ifne (t := 2573) dL_law_2559 (by decide) (fun h2559 => False.elim (by omega)) (fun h2559 => ?_)
      refine r_aloadR3 dL_law_2562 ?_
      refine n_iconst dL_law_2563 (by decide) (fun r2563 e2563 => ?_)
      refine m_lald (k := 0) (x := (j2 (X + 260) 0)) dL_law_2564 hO.1 hO.2 (by omega) (by omega) (rfl) ?_
      refine r_lload6 dL_law_2565 ?_
      refine n_lcmp dL_law_2567 (fun r2567 e2567 => ?_)
      unfold zcmp at e2567
      refine t_ifeq (t := 2573) dL_law_2568 (by decide) (fun h2568 => ?_) (fun h2568 => False.elim (by omega))
      refine r_goto (t := 2729) dL_law_2573 (by decide) ?_
      refine kk _ _ _ _ _ _ _ _ _ _ _ _ _ _ ?_ ?_ (lwI_m hI2 (by omega))
      · first | omega | (dsimp only; omega)
      · first | omega | (dsimp only; omega)
