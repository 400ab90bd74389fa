/-! the law: the cases, fourteenth part: napkin, evening -/
set_option maxHeartbeats 4000000 in
set_option maxRecDepth 100000 in
theorem lc_1 {g : zGT} {Rm : Room} {QQ : List Frame → Array Value → State → State → Prop} {hh : List (Nat × Nat × Nat × Nat)} {nm : String} {w : zW} {f : Nat → Nat → Int32} {j : Nat → Nat → Int64} {s X L i N : Nat} {xs : Nat → Int32} {T : zTb} {ty : Nat → zTy} {im : Nat → Option zTb} {p : Nat} {B : Nat → Nat} {th pl : Int} {iv : Int32} {u5 u6 u7 : Option Value} {b : Nat × Nat} (G : zGok g) (hfr : 2048 ≤ Rm.frames) (hlo : 84000 ≤ Rm.locals) (hb1 : b.1 + 951 ≤ Rm.cells) (hb2 : b.2 + 1006 ≤ Rm.slots) (hT_z : ∀ U, g.2.2.2 U → va_T .int s L (fun k => .int (xs k)) (zA g.2.2.1) U U.heap) (hi_z : iv.toInt = (i : Nat)) (hiL : i + 6 ≤ L) (hL : L ≤ 3072) (h_z : lwI w f j X T ty im p B th pl N) (hN_z : N < 1900000000) {ca wa wv : Nat → Nat} {kq ta sm gq gv : Nat} (kw : kWd g wa wv kq) (ko : kWo g ca wa wv ta sm gq gv) (hld : kLd g wa) (kk : ∀ (T9 : zTb) (ty9 : Nat → zTy) (im9 : Nat → Option zTb) (p9 : Nat) (B9 : Nat → Nat) (th9 pl9 : Int) (u5 u6 u7 : Option Value) w2 f2_z j2 b2, b2.1 ≤ b.1 + 951 → b2.2 ≤ b.2 + 1006 → lwI w2 f2_z j2 X T9 ty9 im9 p9 B9 th9 pl9 (N + 1) → zR (zVg g Rm QQ hh nm 8 (some .boolean)) cL_law RL 2729 [some (.ref s), some (.ref X), some (.ref (X + 239)), some (.ref (X + 260)), some (.int iv), u5, u6, u7] [] (zM w2 f2_z j2) b2) : zR (zVg g Rm QQ hh nm 8 (some .boolean)) cL_law RL 321 [some (.ref s), some (.ref X), some (.ref (X + 239)), some (.ref (X + 260)), some (.int iv), u5, u6, u7] [] (zM w f j) b := by
  have hx := h_z.1.1
  have hX := shX_k hx
  have hO := h_z.1.2.2.2.1
  have hs := h_z.1.2.2.2.2.1
  have ht := h_z.1.2.2.2.2.2.1
  have hw := tb_wf ht
  have hS2 := h_z.1.2.1
  have hz := h_z.1.2.2.1
  obtain ⟨n, hn1, hn2⟩ : ∃ n : Nat, ((0 ≤ (xs (i + 1)).toInt ∧ (xs (i + 1)).toInt ≤ (p : Nat)) → (n : Int) = (xs (i + 1)).toInt) ∧ n ≤ p := by
    by_cases h9 : (0 ≤ (xs (i + 1)).toInt ∧ (xs (i + 1)).toInt ≤ (p : Nat))
    · exact ⟨(xs (i + 1)).toInt.toNat, fun _ => by omega, by omega⟩
    · exact ⟨0, fun h8 => absurd h8 h9, Nat.zero_le _⟩
  refine r_aloadR1 dL_law_321 ?_
  refine r_aloadR0 dL_law_322 ?_
  refine r_iload4 dL_law_323 ?_
  refine n_iconst dL_law_325 (by decide) (fun r325 e325 => ?_)
  refine n_iadd dL_law_326 (by omega) (fun r326 e326 => ?_)
  refine k_iald (k := i + 1) (v := .int (xs (i + 1))) hT_z (by omega) (by omega) (by omega) rfl dL_law_327 ?_
  refine r_aloadR3 dL_law_328 ?_
  refine q_callW (As := [.ref X, .int (xs (i + 1)), .ref (X + 260)]) (rest := []) zw_napkin dL_law_329 rfl rfl (by decide) (by first | exact Nat.le_of_ble_eq_true rfl | omega | (dsimp only; omega)) (by first | exact Nat.le_of_ble_eq_true rfl | omega | (dsimp only; omega)) (by first | exact Nat.le_of_ble_eq_true rfl | omega | (dsimp only; omega)) (by first | exact Nat.le_of_ble_eq_true rfl | omega | (dsimp only; omega)) (w_napkin G hX (s_X11_napkin (n := n) G hx ht kw ko hz hS2 h_z.1.2.2.2.2.2.2.2.2.2.2.2.1 h_z.1.2.2.2.2.2.2.2.2.2.2.2.2.1 h_z.1.2.2.2.2.2.2.2.2.2.2.2.2.2.1 h_z.1.2.2.2.2.2.2.2.2.2.2.2.2.2.2.1 hn1 (fun hc0 n9 hn9 => ⟨rfl, fun k1_z ek => ?_⟩) (fun hc0 hc1 rc w9 f1_z j9 ec g1 g2 g3_z g4 g5_z g6 g7 g8 => ⟨rc, w9, f1_z, j9, rfl, rfl, (g1.2.1 (X + 260) (by omega)).1.trans hO.1, (g1.2.1 (X + 260) (by omega)).2.trans hO.2, fun k1_z y1 ek ey => ?_⟩) (fun hc0 hc1 rc w9 f1_z j9 ec g1 g2 g3_z g4 g5_z g6 g7 g8 => ⟨rc, w9, f1_z, j9, rfl, rfl, (g1.2.1 (X + 260) (by omega)).1.trans hO.1, (g1.2.1 (X + 260) (by omega)).2.trans hO.2, fun k1_z y1 ek ey => ?_⟩)))
  · have hI1 := lwI_s (n := n9) h_z hn9
    rw [show zsS (zM w f j) n9 = zM (zsS w n9) f j from rfl]
    have hs := hI1.1.2.2.2.2.1
    have hO := hI1.1.2.2.2.1
    refine r_istore5 dL_law_332 rfl ?_
    refine r_aloadR2 dL_law_334 ?_
    refine r_aloadR0 dL_law_335 ?_
    refine r_iload4 dL_law_336 ?_
    refine n_iconst dL_law_338 (by decide) (fun r338 e338 => ?_)
    refine n_iadd dL_law_339 (by omega) (fun r339 e339 => ?_)
    refine k_iald (k := i + 1) (v := .int (xs (i + 1))) hT_z (by omega) (by omega) (by omega) rfl dL_law_340 ?_
    refine q_callV1 zm_RL_150 dL_law_341 (shM_k hs) (by decide) rfl (by decide) (by first | exact Nat.le_of_ble_eq_true rfl | omega | (dsimp only; omega)) (by first | exact Nat.le_of_ble_eq_true rfl | omega | (dsimp only; omega)) (by first | exact Nat.le_of_ble_eq_true rfl | omega | (dsimp only; omega)) (by first | exact Nat.le_of_ble_eq_true rfl | omega | (dsimp only; omega)) (s_X12_napkin (p := p) (n := n) G hs kw hld hI1.2.2.2.2.2.2.1 h_z.1.2.2.2.2.2.2.2.2.2.2.2.2.1 (fun q hq => hI1.2.2.2.2.2.2.2.1 q (by omega)) h_z.1.2.2.2.2.2.2.2.2.2.2.2.2.2.2.1 (by rcases Classical.em (0 ≤ (xs (i + 1)).toInt ∧ (xs (i + 1)).toInt ≤ (p : Nat)) with h9 | h9; exact Or.inl (hn1 h9); exact Or.inr h9) (fun hy0 r6 f2_z o6 t6 => ?_) (fun hy0 hy1 r6 f2_z e6_z o6 t6 a1 a2 a3 => ?_) (fun hy0 hy1 r6 f2_z e6_z o6 t6 a1 a2 a3 a4 a5 => ?_))
    · have hI2 := lwI_mf hI1 (frM_su o6 (by decide) (by decide))
      refine r_istore6 dL_law_344 rfl ?_
      refine r_aloadR2 dL_law_346 ?_
      refine q_callV0 zm_RL_151 dL_law_347 (shM_k hs) (by decide) rfl (by first | exact Nat.le_of_ble_eq_true rfl | omega | (dsimp only; omega)) (by first | exact Nat.le_of_ble_eq_true rfl | omega | (dsimp only; omega)) (by first | exact Nat.le_of_ble_eq_true rfl | omega | (dsimp only; omega)) (by first | exact Nat.le_of_ble_eq_true rfl | omega | (dsimp only; omega)) (by first | exact Nat.le_of_ble_eq_true rfl | omega | (dsimp only; omega)) (s_X12_thrown G hs (fun r7 e7_z => ?_))
      have e7i : r7.toInt = (f2_z (X + 239) 4).toInt := by rw [e7_z]
      refine r_iload5 dL_law_350 ?_
      refine t_iceq (t := 357) dL_law_352 (by decide) (fun h352 => ?_) (fun h352 => False.elim (by omega))
      refine r_iload5 dL_law_357 ?_
      refine t_ifne (t := 374) dL_law_359 (by decide) (fun h359 => ?_) (fun h359 => False.elim (by omega))
      refine r_goto (t := 2729) dL_law_374 (by decide) ?_
      refine kk _ _ _ _ _ _ _ _ _ _ _ _ _ _ ?_ ?_ (lwI_m hI2 (by omega))
      · first | omega | (dsimp only; omega)
      · first | omega | (dsimp only; omega)
    · exact False.elim (by omega)
    · exact False.elim (by omega)
  · have hC1 := lwC_g (p2 := 0) h_z.1 g1.1 g1.2.1 (fun q k c1_z c2_z c3_z c4_z => g1.2.2.1 q k c1_z (by omega) (by omega)) g1.2.2.2 g2.1 g2.2 g7 g8 (by rw [g4]; rfl) (Nat.zero_le _) g5_z g6
    have hM2 := lwM_e (f2_z := f1_z) (j2 := zu j9 (X + 260) 0 y1) h_z.2 (fun q h1 h2 => g2.1 q (by omega) (by omega) (by omega) (by omega) (by omega)) (fun q h1 h2 => (zu_ne (by omega)).trans (g2.2 q (by omega)))
    have hC2 := lwC_f (f2_z := f1_z) (j2 := zu j9 (X + 260) 0 y1) hC1 (fun _ _ => rfl) (fun e => e) (fun e => e) (fun q hq => zu_ne (by omega))
    have hs := hC2.2.2.2.2.1
    have hO := hC2.2.2.2.1
    have hj1 : zu j9 (X + 260) 0 y1 (X + 260) 0 = y1 := zu_at
    obtain ⟨j1, hj⟩ : ∃ j8, j8 = zu j9 (X + 260) 0 y1 := ⟨_, rfl⟩
    rw [← hj] at hC2 hM2 hj1 ⊢
    have hI1 := And.intro trivial hM2
    refine r_istore5 dL_law_332 rfl ?_
    refine r_aloadR2 dL_law_334 ?_
    refine r_aloadR0 dL_law_335 ?_
    refine r_iload4 dL_law_336 ?_
    refine n_iconst dL_law_338 (by decide) (fun r338 e338 => ?_)
    refine n_iadd dL_law_339 (by omega) (fun r339 e339 => ?_)
    refine k_iald (k := i + 1) (v := .int (xs (i + 1))) hT_z (by omega) (by omega) (by omega) rfl dL_law_340 ?_
    refine q_callV1 zm_RL_150 dL_law_341 (shM_k hs) (by decide) rfl (by decide) (by first | exact Nat.le_of_ble_eq_true rfl | omega | (dsimp only; omega)) (by first | exact Nat.le_of_ble_eq_true rfl | omega | (dsimp only; omega)) (by first | exact Nat.le_of_ble_eq_true rfl | omega | (dsimp only; omega)) (by first | exact Nat.le_of_ble_eq_true rfl | omega | (dsimp only; omega)) (s_X12_napkin (p := p) (n := n) G hs kw hld hI1.2.2.2.2.2.2.1 h_z.1.2.2.2.2.2.2.2.2.2.2.2.2.1 (fun q hq => hI1.2.2.2.2.2.2.2.1 q (by omega)) h_z.1.2.2.2.2.2.2.2.2.2.2.2.2.2.2.1 (by rcases Classical.em (0 ≤ (xs (i + 1)).toInt ∧ (xs (i + 1)).toInt ≤ (p : Nat)) with h9 | h9; exact Or.inl (hn1 h9); exact Or.inr h9) (fun hy0 r6 f2_z o6 t6 => ?_) (fun hy0 hy1 r6 f2_z e6_z o6 t6 a1 a2 a3 => ?_) (fun hy0 hy1 r6 f2_z e6_z o6 t6 a1 a2 a3 a4 a5 => ?_))
    · exact False.elim (by omega)
    · have hI2 := And.intro (lwC_f hC2 (fun q hq => o6.1 q (by omega)) (fun e => wyI_e e (fun r h1 h2 => o6.1 _ (by omega))) (fun e => wyI_e e (fun r h1 h2 => o6.1 _ (by omega))) (fun _ _ => rfl)) (lwM_g (p2 := 0) hM2 (frM_su o6 (by decide) (by decide)) (by rw [o6.2.1 1 (by decide) (by decide) (by decide)]; exact hM2.1) (by rw [a1]; rfl) (Nat.zero_le _) a2 a3)
      have hl2 : (j1 (X + 260) 0).toInt = y1.toInt := by rw [hj1]
      have he9 : rc.toInt = r6.toInt := by rw [ec, e6_z]
      refine r_istore6 dL_law_344 rfl ?_
      refine r_aloadR2 dL_law_346 ?_
      refine q_callV0 zm_RL_151 dL_law_347 (shM_k hs) (by decide) rfl (by first | exact Nat.le_of_ble_eq_true rfl | omega | (dsimp only; omega)) (by first | exact Nat.le_of_ble_eq_true rfl | omega | (dsimp only; omega)) (by first | exact Nat.le_of_ble_eq_true rfl | omega | (dsimp only; omega)) (by first | exact Nat.le_of_ble_eq_true rfl | omega | (dsimp only; omega)) (by first | exact Nat.le_of_ble_eq_true rfl | omega | (dsimp only; omega)) (s_X12_thrown G hs (fun r7 e7_z => ?_))
      have e7i : r7.toInt = (f2_z (X + 239) 4).toInt := by rw [e7_z]
      refine r_iload5 dL_law_350 ?_
      refine t_iceq (t := 357) dL_law_352 (by decide) (fun h352 => ?_) (fun h352 => False.elim (by omega))
      refine r_iload5 dL_law_357 ?_
      refine t_ifne (t := 374) dL_law_359 (by decide) (fun h359 => False.elim (by omega)) (fun h359 => ?_)
      refine r_aloadR3 dL_law_362 ?_
      refine n_iconst dL_law_363 (by decide) (fun r363 e363 => ?_)
      refine m_lald (k := 0) (x := (j1 (X + 260) 0)) dL_law_364 hO.1 hO.2 (by omega) (by omega) (rfl) ?_
      refine r_iload6 dL_law_365 ?_
      refine n_i2l dL_law_367 (fun r367 e367 => ?_)
      refine n_lcmp dL_law_368 (fun r368 e368 => ?_)
      unfold zcmp at e368
      refine t_ifeq (t := 374) dL_law_369 (by decide) (fun h369 => ?_) (fun h369 => False.elim (by omega))
      refine r_goto (t := 2729) dL_law_374 (by decide) ?_
      refine kk _ _ _ _ _ _ _ _ _ _ _ _ _ _ ?_ ?_ (lwI_m hI2 (by omega))
      · first | omega | (dsimp only; omega)
      · first | omega | (dsimp only; omega)
    · exact False.elim (by omega)
  · have hC1 := lwC_g (p2 := 0) h_z.1 g1.1 g1.2.1 (fun q k c1_z c2_z c3_z c4_z => g1.2.2.1 q k c1_z (by omega) (by omega)) g1.2.2.2 g2.1 g2.2 g7 g8 (by rw [g4]; rfl) (Nat.zero_le _) g5_z g6
    have hM2 := lwM_e (f2_z := f1_z) (j2 := zu j9 (X + 260) 0 y1) h_z.2 (fun q h1 h2 => g2.1 q (by omega) (by omega) (by omega) (by omega) (by omega)) (fun q h1 h2 => (zu_ne (by omega)).trans (g2.2 q (by omega)))
    have hC2 := lwC_f (f2_z := f1_z) (j2 := zu j9 (X + 260) 0 y1) hC1 (fun _ _ => rfl) (fun e => e) (fun e => e) (fun q hq => zu_ne (by omega))
    have hs := hC2.2.2.2.2.1
    have hO := hC2.2.2.2.1
    have hj1 : zu j9 (X + 260) 0 y1 (X + 260) 0 = y1 := zu_at
    obtain ⟨j1, hj⟩ : ∃ j8, j8 = zu j9 (X + 260) 0 y1 := ⟨_, rfl⟩
    rw [← hj] at hC2 hM2 hj1 ⊢
    have hI1 := And.intro trivial hM2
    refine r_istore5 dL_law_332 rfl ?_
    refine r_aloadR2 dL_law_334 ?_
    refine r_aloadR0 dL_law_335 ?_
    refine r_iload4 dL_law_336 ?_
    refine n_iconst dL_law_338 (by decide) (fun r338 e338 => ?_)
    refine n_iadd dL_law_339 (by omega) (fun r339 e339 => ?_)
    refine k_iald (k := i + 1) (v := .int (xs (i + 1))) hT_z (by omega) (by omega) (by omega) rfl dL_law_340 ?_
    refine q_callV1 zm_RL_150 dL_law_341 (shM_k hs) (by decide) rfl (by decide) (by first | exact Nat.le_of_ble_eq_true rfl | omega | (dsimp only; omega)) (by first | exact Nat.le_of_ble_eq_true rfl | omega | (dsimp only; omega)) (by first | exact Nat.le_of_ble_eq_true rfl | omega | (dsimp only; omega)) (by first | exact Nat.le_of_ble_eq_true rfl | omega | (dsimp only; omega)) (s_X12_napkin (p := p) (n := n) G hs kw hld hI1.2.2.2.2.2.2.1 h_z.1.2.2.2.2.2.2.2.2.2.2.2.2.1 (fun q hq => hI1.2.2.2.2.2.2.2.1 q (by omega)) h_z.1.2.2.2.2.2.2.2.2.2.2.2.2.2.2.1 (by rcases Classical.em (0 ≤ (xs (i + 1)).toInt ∧ (xs (i + 1)).toInt ≤ (p : Nat)) with h9 | h9; exact Or.inl (hn1 h9); exact Or.inr h9) (fun hy0 r6 f2_z o6 t6 => ?_) (fun hy0 hy1 r6 f2_z e6_z o6 t6 a1 a2 a3 => ?_) (fun hy0 hy1 r6 f2_z e6_z o6 t6 a1 a2 a3 a4 a5 => ?_))
    · exact False.elim (by omega)
    · exact False.elim (by omega)
    · have hI2 := And.intro (lwC_f hC2 (fun q hq => o6.1 q (by omega)) (fun e => wyI_e e (fun r h1 h2 => o6.1 _ (by omega))) (fun e => wyI_e e (fun r h1 h2 => o6.1 _ (by omega))) (fun _ _ => rfl)) (lwM_g (p2 := 0) hM2 (frM_su o6 (by decide) (by decide)) a4 (by rw [a1]; rfl) (Nat.zero_le _) a2 a3)
      have hl2 : (j1 (X + 260) 0).toInt = y1.toInt := by rw [hj1]
      have he9 : rc.toInt = r6.toInt := by rw [ec, e6_z]
      refine r_istore6 dL_law_344 rfl ?_
      refine r_aloadR2 dL_law_346 ?_
      refine q_callV0 zm_RL_151 dL_law_347 (shM_k hs) (by decide) rfl (by first | exact Nat.le_of_ble_eq_true rfl | omega | (dsimp only; omega)) (by first | exact Nat.le_of_ble_eq_true rfl | omega | (dsimp only; omega)) (by first | exact Nat.le_of_ble_eq_true rfl | omega | (dsimp only; omega)) (by first | exact Nat.le_of_ble_eq_true rfl | omega | (dsimp only; omega)) (by first | exact Nat.le_of_ble_eq_true rfl | omega | (dsimp only; omega)) (s_X12_thrown G hs (fun r7 e7_z => ?_))
      have e7i : r7.toInt = (f2_z (X + 239) 4).toInt := by rw [e7_z]
      refine r_iload5 dL_law_350 ?_
      refine t_iceq (t := 357) dL_law_352 (by decide) (fun h352 => ?_) (fun h352 => False.elim (by omega))
      refine r_iload5 dL_law_357 ?_
      refine t_ifne (t := 374) dL_law_359 (by decide) (fun h359 => False.elim (by omega)) (fun h359 => ?_)
      refine r_aloadR3 dL_law_362 ?_
      refine n_iconst dL_law_363 (by decide) (fun r363 e363 => ?_)
      refine m_lald (k := 0) (x := (j1 (X + 260) 0)) dL_law_364 hO.1 hO.2 (by omega) (by omega) (rfl) ?_
      refine r_iload6 dL_law_365 ?_
      refine n_i2l dL_law_367 (fun r367 e367 => ?_)
      refine n_lcmp dL_law_368 (fun r368 e368 => ?_)
      unfold zcmp at e368
      refine t_ifeq (t := 374) dL_law_369 (by decide) (fun h369 => ?_) (fun h369 => False.elim (by omega))
      refine r_goto (t := 2729) dL_law_374 (by decide) ?_
      refine kk _ _ _ _ _ _ _ _ _ _ _ _ _ _ ?_ ?_ (lwI_m hI2 (by omega))
      · first | omega | (dsimp only; omega)
      · first | omega | (dsimp only; omega)
set_option maxHeartbeats 4000000 in
set_option maxRecDepth 100000 in
theorem lc_20 {g : zGT} {Rm : Room} {QQ : List Frame → Array Value → State → State → Prop} {hh : List (Nat × Nat × Nat × Nat)} {nm : String} {w : zW} {f : Nat → Nat → Int32} {j : Nat → Nat → Int64} {s X L i N : Nat} {xs : Nat → Int32} {T : zTb} {ty : Nat → zTy} {im : Nat → Option zTb} {p : Nat} {B : Nat → Nat} {th pl : Int} {iv : Int32} {u5 u6 u7 : Option Value} {b : Nat × Nat} (G : zGok g) (hfr : 2048 ≤ Rm.frames) (hlo : 84000 ≤ Rm.locals) (hb1 : b.1 + 951 ≤ Rm.cells) (hb2 : b.2 + 1006 ≤ Rm.slots) (hT_z : ∀ U, g.2.2.2 U → va_T .int s L (fun k => .int (xs k)) (zA g.2.2.1) U U.heap) (hi_z : iv.toInt = (i : Nat)) (hiL : i + 6 ≤ L) (hL : L ≤ 3072) (h_z : lwI w f j X T ty im p B th pl N) (hN_z : N < 1900000000)  (kk : ∀ (T9 : zTb) (ty9 : Nat → zTy) (im9 : Nat → Option zTb) (p9 : Nat) (B9 : Nat → Nat) (th9 pl9 : Int) (u5 u6 u7 : Option Value) w2 f2_z j2 b2, b2.1 ≤ b.1 + 951 → b2.2 ≤ b.2 + 1006 → lwI w2 f2_z j2 X T9 ty9 im9 p9 B9 th9 pl9 (N + 1) → zR (zVg g Rm QQ hh nm 8 (some .boolean)) cL_law RL 2729 [some (.ref s), some (.ref X), some (.ref (X + 239)), some (.ref (X + 260)), some (.int iv), u5, u6, u7] [] (zM w2 f2_z j2) b2) : zR (zVg g Rm QQ hh nm 8 (some .boolean)) cL_law RL 1285 [some (.ref s), some (.ref X), some (.ref (X + 239)), some (.ref (X + 260)), some (.int iv), u5, u6, u7] [] (zM w f j) b := by
  have hx := h_z.1.1
  have hX := shX_k hx
  have hO := h_z.1.2.2.2.1
  have hs := h_z.1.2.2.2.2.1
  have ht := h_z.1.2.2.2.2.2.1
  have hw := tb_wf ht
  have hS2 := h_z.1.2.1
  have hz := h_z.1.2.2.1
  refine r_aloadR1 dL_law_1285 ?_
  refine r_aloadR0 dL_law_1286 ?_
  refine r_iload4 dL_law_1287 ?_
  refine n_iconst dL_law_1289 (by decide) (fun r1289 e1289 => ?_)
  refine n_iadd dL_law_1290 (by omega) (fun r1290 e1290 => ?_)
  refine k_iald (k := i + 1) (v := .int (xs (i + 1))) hT_z (by omega) (by omega) (by omega) rfl dL_law_1291 ?_
  refine r_aloadR0 dL_law_1292 ?_
  refine r_iload4 dL_law_1293 ?_
  refine n_iconst dL_law_1295 (by decide) (fun r1295 e1295 => ?_)
  refine n_iadd dL_law_1296 (by omega) (fun r1296 e1296 => ?_)
  refine k_iald (k := i + 2) (v := .int (xs (i + 2))) hT_z (by omega) (by omega) (by omega) rfl dL_law_1297 ?_
  refine r_aloadR3 dL_law_1298 ?_
  refine q_callW (As := [.ref X, .int (xs (i + 1)), .int (xs (i + 2)), .ref (X + 260)]) (rest := []) zw_evening dL_law_1299 rfl rfl (by decide) (by first | exact Nat.le_of_ble_eq_true rfl | omega | (dsimp only; omega)) (by first | exact Nat.le_of_ble_eq_true rfl | omega | (dsimp only; omega)) (by first | exact Nat.le_of_ble_eq_true rfl | omega | (dsimp only; omega)) (by first | exact Nat.le_of_ble_eq_true rfl | omega | (dsimp only; omega)) (w_evening G hX (s_X11_evening G hx ht hz hS2 (fun hc0 n9 hn9 => ⟨rfl, fun k1_z ek => ?_⟩) (fun hc0 rc w9 f1_z j9 ec g1 g2 g3_z g4 g5_z => ⟨rc, w9, f1_z, j9, rfl, rfl, (g1.2.1 (X + 260) (by omega)).1.trans hO.1, (g1.2.1 (X + 260) (by omega)).2.trans hO.2, fun k1_z y1 ek ey => ?_⟩)))
  · have hI1 := lwI_s (n := n9) h_z hn9
    rw [show zsS (zM w f j) n9 = zM (zsS w n9) f j from rfl]
    have hs := hI1.1.2.2.2.2.1
    have hO := hI1.1.2.2.2.1
    refine r_istore5 dL_law_1302 rfl ?_
    refine r_aloadR2 dL_law_1304 ?_
    refine r_aloadR0 dL_law_1305 ?_
    refine r_iload4 dL_law_1306 ?_
    refine n_iconst dL_law_1308 (by decide) (fun r1308 e1308 => ?_)
    refine n_iadd dL_law_1309 (by omega) (fun r1309 e1309 => ?_)
    refine k_iald (k := i + 1) (v := .int (xs (i + 1))) hT_z (by omega) (by omega) (by omega) rfl dL_law_1310 ?_
    refine r_aloadR0 dL_law_1311 ?_
    refine r_iload4 dL_law_1312 ?_
    refine n_iconst dL_law_1314 (by decide) (fun r1314 e1314 => ?_)
    refine n_iadd dL_law_1315 (by omega) (fun r1315 e1315 => ?_)
    refine k_iald (k := i + 2) (v := .int (xs (i + 2))) hT_z (by omega) (by omega) (by omega) rfl dL_law_1316 ?_
    refine q_callV2 zm_RL_218 dL_law_1317 (shM_k hs) (by decide) rfl (by decide) (by first | exact Nat.le_of_ble_eq_true rfl | omega | (dsimp only; omega)) (by first | exact Nat.le_of_ble_eq_true rfl | omega | (dsimp only; omega)) (by first | exact Nat.le_of_ble_eq_true rfl | omega | (dsimp only; omega)) (by first | exact Nat.le_of_ble_eq_true rfl | omega | (dsimp only; omega)) (s_X12_evening G hs hI1.2.1 hw (fun hy0 r6 f2_z o6 t6 => ?_) (fun hy0 r6 f2_z e6_z o6 t6 a4 => ?_))
    · have hI2 := lwI_mf hI1 (frM_su o6 (by decide) (by decide))
      refine r_istore6 dL_law_1320 rfl ?_
      refine r_aloadR2 dL_law_1322 ?_
      refine q_callV0 zm_RL_151 dL_law_1323 (shM_k hs) (by decide) rfl (by first | exact Nat.le_of_ble_eq_true rfl | omega | (dsimp only; omega)) (by first | exact Nat.le_of_ble_eq_true rfl | omega | (dsimp only; omega)) (by first | exact Nat.le_of_ble_eq_true rfl | omega | (dsimp only; omega)) (by first | exact Nat.le_of_ble_eq_true rfl | omega | (dsimp only; omega)) (by first | exact Nat.le_of_ble_eq_true rfl | omega | (dsimp only; omega)) (s_X12_thrown G hs (fun r7 e7_z => ?_))
      have e7i : r7.toInt = (f2_z (X + 239) 4).toInt := by rw [e7_z]
      refine r_iload5 dL_law_1326 ?_
      refine t_iceq (t := 1333) dL_law_1328 (by decide) (fun h1328 => ?_) (fun h1328 => False.elim (by omega))
      refine r_iload5 dL_law_1333 ?_
      refine t_ifne (t := 1350) dL_law_1335 (by decide) (fun h1335 => ?_) (fun h1335 => False.elim (by omega))
      refine r_goto (t := 2729) dL_law_1350 (by decide) ?_
      refine kk _ _ _ _ _ _ _ _ _ _ _ _ _ _ ?_ ?_ (lwI_m hI2 (by omega))
      · first | omega | (dsimp only; omega)
      · first | omega | (dsimp only; omega)
    · exact False.elim (by omega)
  · have hf9 : ∀ q, q < zS w → q ≠ X → q ≠ X + 2 → q ≠ X + 10 → ¬ (q = X + 11 ∨ X + 18 ≤ q ∧ q < X + 52) → f1_z q = f q := fun q c1_z _ _ _ c5_z => g2 q c1_z c5_z
    have hC1 := lwC_g (p2 := p) (th2 := th) (pl2 := pl) h_z.1 g1.1 g1.2.1 (fun q k c1_z c2_z c3_z c4_z => congrFun (g1.2.2.1 q c1_z c4_z) k) g1.2.2.2 hf9 g3_z g4 g5_z (by rw [g2 X (by omega) (by omega)]; exact h_z.1.2.2.2.2.2.2.2.2.2.2.2.1) (Nat.le_refl _) (by rw [g2 X (by omega) (by omega)]; exact h_z.1.2.2.2.2.2.2.2.2.2.2.2.2.2.2.2.1) (by rw [g2 X (by omega) (by omega)]; exact h_z.1.2.2.2.2.2.2.2.2.2.2.2.2.2.2.2.2)
    have hM2 := lwM_e (f2_z := f1_z) (j2 := zu j9 (X + 260) 0 y1) h_z.2 (fun q h1 h2 => g2 q (by omega) (by omega)) (fun q h1 h2 => (zu_ne (by omega)).trans (g3_z q (by omega)))
    have hC2 := lwC_f (f2_z := f1_z) (j2 := zu j9 (X + 260) 0 y1) hC1 (fun _ _ => rfl) (fun e => e) (fun e => e) (fun q hq => zu_ne (by omega))
    have hs := hC2.2.2.2.2.1
    have hO := hC2.2.2.2.1
    have hj1 : zu j9 (X + 260) 0 y1 (X + 260) 0 = y1 := zu_at
    obtain ⟨j1, hj⟩ : ∃ j8, j8 = zu j9 (X + 260) 0 y1 := ⟨_, rfl⟩
    rw [← hj] at hC2 hM2 hj1 ⊢
    have hI1 := And.intro trivial hM2
    refine r_istore5 dL_law_1302 rfl ?_
    refine r_aloadR2 dL_law_1304 ?_
    refine r_aloadR0 dL_law_1305 ?_
    refine r_iload4 dL_law_1306 ?_
    refine n_iconst dL_law_1308 (by decide) (fun r1308 e1308 => ?_)
    refine n_iadd dL_law_1309 (by omega) (fun r1309 e1309 => ?_)
    refine k_iald (k := i + 1) (v := .int (xs (i + 1))) hT_z (by omega) (by omega) (by omega) rfl dL_law_1310 ?_
    refine r_aloadR0 dL_law_1311 ?_
    refine r_iload4 dL_law_1312 ?_
    refine n_iconst dL_law_1314 (by decide) (fun r1314 e1314 => ?_)
    refine n_iadd dL_law_1315 (by omega) (fun r1315 e1315 => ?_)
    refine k_iald (k := i + 2) (v := .int (xs (i + 2))) hT_z (by omega) (by omega) (by omega) rfl dL_law_1316 ?_
    refine q_callV2 zm_RL_218 dL_law_1317 (shM_k hs) (by decide) rfl (by decide) (by first | exact Nat.le_of_ble_eq_true rfl | omega | (dsimp only; omega)) (by first | exact Nat.le_of_ble_eq_true rfl | omega | (dsimp only; omega)) (by first | exact Nat.le_of_ble_eq_true rfl | omega | (dsimp only; omega)) (by first | exact Nat.le_of_ble_eq_true rfl | omega | (dsimp only; omega)) (s_X12_evening G hs hI1.2.1 hw (fun hy0 r6 f2_z o6 t6 => ?_) (fun hy0 r6 f2_z e6_z o6 t6 a4 => ?_))
    · exact False.elim (by omega)
    · have kx : ∀ k, k ≠ 4 → k ≠ 24 → f2_z (X + 239) k = f1_z (X + 239) k := fun k c1_z c2_z => o6.2.2 k (by simp only [List.mem_cons, List.not_mem_nil, or_false]; omega)
      have hI2 := And.intro (lwC_f hC2 (fun q hq => o6.1 q (by omega)) (fun e => wyI_e e (fun r h1 h2 => o6.1 _ (by omega))) (fun e => wyI_e e (fun r h1 h2 => o6.1 _ (by omega))) (fun _ _ => rfl)) (lwM_g (p2 := p) (th2 := th) (pl2 := pl) hM2 (frM_su o6 (by decide) (by decide)) a4 (by rw [kx 6 (by decide) (by decide)]; exact hM2.2.2.2.2.2.1) (Nat.le_refl _) (by rw [kx 14 (by decide) (by decide)]; exact hM2.2.2.2.2.2.2.2.1) (by rw [kx 15 (by decide) (by decide)]; exact hM2.2.2.2.2.2.2.2.2))
      have hl2 : (j1 (X + 260) 0).toInt = y1.toInt := by rw [hj1]
      have he9 : rc.toInt = r6.toInt := by rw [ec, e6_z]
      refine r_istore6 dL_law_1320 rfl ?_
      refine r_aloadR2 dL_law_1322 ?_
      refine q_callV0 zm_RL_151 dL_law_1323 (shM_k hs) (by decide) rfl (by first | exact Nat.le_of_ble_eq_true rfl | omega | (dsimp only; omega)) (by first | exact Nat.le_of_ble_eq_true rfl | omega | (dsimp only; omega)) (by first | exact Nat.le_of_ble_eq_true rfl | omega | (dsimp only; omega)) (by first | exact Nat.le_of_ble_eq_true rfl | omega | (dsimp only; omega)) (by first | exact Nat.le_of_ble_eq_true rfl | omega | (dsimp only; omega)) (s_X12_thrown G hs (fun r7 e7_z => ?_))
      have e7i : r7.toInt = (f2_z (X + 239) 4).toInt := by rw [e7_z]
      refine r_iload5 dL_law_1326 ?_
      refine t_iceq (t := 1333) dL_law_1328 (by decide) (fun h1328 => ?_) (fun h1328 => False.elim (by omega))
      refine r_iload5 dL_law_1333 ?_
      refine t_ifne (t := 1350) dL_law_1335 (by decide) (fun h1335 => False.elim (by omega)) (fun h1335 => ?_)
      refine r_aloadR3 dL_law_1338 ?_
      refine n_iconst dL_law_1339 (by decide) (fun r1339 e1339 => ?_)
      refine m_lald (k := 0) (x := (j1 (X + 260) 0)) dL_law_1340 hO.1 hO.2 (by omega) (by omega) (rfl) ?_
      refine r_iload6 dL_law_1341 ?_
      refine n_i2l dL_law_1343 (fun r1343 e1343 => ?_)
      refine n_lcmp dL_law_1344 (fun r1344 e1344 => ?_)
      unfold zcmp at e1344
      refine t_ifeq (t := 1350) dL_law_1345 (by decide) (fun h1345 => ?_) (fun h1345 => False.elim (by omega))
      refine r_goto (t := 2729) dL_law_1350 (by decide) ?_
      refine kk _ _ _ _ _ _ _ _ _ _ _ _ _ _ ?_ ?_ (lwI_m hI2 (by omega))
      · first | omega | (dsimp only; omega)
      · first | omega | (dsimp only; omega)
