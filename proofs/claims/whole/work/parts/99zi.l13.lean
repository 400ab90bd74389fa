/-! the law: the cases, thirteenth part: feed -/
set_option maxHeartbeats 4000000 in
set_option maxRecDepth 100000 in
theorem lc_0 {g : zGT} {Rm : Room} {QQ : List Frame → Array Value → State → State → Prop} {hh : List (Nat × Nat × Nat × Nat)} {nm : String} {w : zW} {f : Nat → Nat → Int32} {j : Nat → Nat → Int64} {s X L i N : Nat} {xs : Nat → Int32} {T : zTb} {ty : Nat → zTy} {im : Nat → Option zTb} {p : Nat} {B : Nat → Nat} {th pl : Int} {iv : Int32} {u5 u6 u7 : Option Value} {b : Nat × Nat} (G : zGok g) (hfr : 2048 ≤ Rm.frames) (hlo : 84000 ≤ Rm.locals) (hb1 : b.1 + 951 ≤ Rm.cells) (hb2 : b.2 + 1006 ≤ Rm.slots) (hT_z : ∀ U, g.2.2.2 U → va_T .int s L (fun k => .int (xs k)) (zA g.2.2.1) U U.heap) (hi_z : iv.toInt = (i : Nat)) (hiL : i + 6 ≤ L) (hL : L ≤ 3072) (h_z : lwI w f j X T ty im p B th pl N) (hN_z : N < 1900000000) (kk : ∀ (T9 : zTb) (ty9 : Nat → zTy) (im9 : Nat → Option zTb) (p9 : Nat) (B9 : Nat → Nat) (th9 pl9 : Int) (u5 u6 u7 : Option Value) w2 f2_z j2 b2, b2.1 ≤ b.1 + 951 → b2.2 ≤ b.2 + 1006 → lwI w2 f2_z j2 X T9 ty9 im9 p9 B9 th9 pl9 (N + 1) → zR (zVg g Rm QQ hh nm 8 (some .boolean)) cL_law RL 2729 [some (.ref s), some (.ref X), some (.ref (X + 239)), some (.ref (X + 260)), some (.int iv), u5, u6, u7] [] (zM w2 f2_z j2) b2) : zR (zVg g Rm QQ hh nm 8 (some .boolean)) cL_law RL 248 [some (.ref s), some (.ref X), some (.ref (X + 239)), some (.ref (X + 260)), some (.int iv), u5, u6, u7] [] (zM w f j) b := by
  have hx := h_z.1.1
  have hX := shX_k hx
  have hO := h_z.1.2.2.2.1
  have hs := h_z.1.2.2.2.2.1
  have ht := h_z.1.2.2.2.2.2.1
  have hw := tb_wf ht
  have hS2 := h_z.1.2.1
  have hz := h_z.1.2.2.1
  refine r_aloadR1 dL_law_248 ?_
  refine r_aloadR0 dL_law_249 ?_
  refine r_iload4 dL_law_250 ?_
  refine n_iconst dL_law_252 (by decide) (fun r252 e252 => ?_)
  refine n_iadd dL_law_253 (by omega) (fun r253 e253 => ?_)
  refine k_iald (k := i + 1) (v := .int (xs (i + 1))) hT_z (by omega) (by omega) (by omega) rfl dL_law_254 ?_
  refine r_aloadR0 dL_law_255 ?_
  refine r_iload4 dL_law_256 ?_
  refine n_iconst dL_law_258 (by decide) (fun r258 e258 => ?_)
  refine n_iadd dL_law_259 (by omega) (fun r259 e259 => ?_)
  refine k_iald (k := i + 2) (v := .int (xs (i + 2))) hT_z (by omega) (by omega) (by omega) rfl dL_law_260 ?_
  refine r_aloadR0 dL_law_261 ?_
  refine r_iload4 dL_law_262 ?_
  refine n_iconst dL_law_264 (by decide) (fun r264 e264 => ?_)
  refine n_iadd dL_law_265 (by omega) (fun r265 e265 => ?_)
  refine k_iald (k := i + 3) (v := .int (xs (i + 3))) hT_z (by omega) (by omega) (by omega) rfl dL_law_266 ?_
  refine r_aloadR0 dL_law_267 ?_
  refine r_iload4 dL_law_268 ?_
  refine n_iconst dL_law_270 (by decide) (fun r270 e270 => ?_)
  refine n_iadd dL_law_271 (by omega) (fun r271 e271 => ?_)
  refine k_iald (k := i + 4) (v := .int (xs (i + 4))) hT_z (by omega) (by omega) (by omega) rfl dL_law_272 ?_
  refine r_aloadR0 dL_law_273 ?_
  refine r_iload4 dL_law_274 ?_
  refine n_iconst dL_law_276 (by decide) (fun r276 e276 => ?_)
  refine n_iadd dL_law_277 (by omega) (fun r277 e277 => ?_)
  refine k_iald (k := i + 5) (v := .int (xs (i + 5))) hT_z (by omega) (by omega) (by omega) rfl dL_law_278 ?_
  refine q_callV5 zm_RL_140 dL_law_279 hX (by decide) rfl (by first | exact Nat.le_of_ble_eq_true rfl | omega | (dsimp only; omega)) (by first | exact Nat.le_of_ble_eq_true rfl | omega | (dsimp only; omega)) (by first | exact Nat.le_of_ble_eq_true rfl | omega | (dsimp only; omega)) (by first | exact Nat.le_of_ble_eq_true rfl | omega | (dsimp only; omega)) (by first | exact Nat.le_of_ble_eq_true rfl | omega | (dsimp only; omega)) (s_X11_feed G hx h_z.1.2.2.2.2.2.2.2.2.2.2.2.1 h_z.1.2.2.2.2.2.2.2.2.2.2.2.2.1 (fun hc_z rc ec => ?_) (fun hc_z rc f1_z ec hq => ?_))
  · have hM2 := h_z.2
    refine r_aloadR2 dL_law_282 ?_
    refine r_aloadR0 dL_law_283 ?_
    refine r_iload4 dL_law_284 ?_
    refine n_iconst dL_law_286 (by decide) (fun r286 e286 => ?_)
    refine n_iadd dL_law_287 (by omega) (fun r287 e287 => ?_)
    refine k_iald (k := i + 1) (v := .int (xs (i + 1))) hT_z (by omega) (by omega) (by omega) rfl dL_law_288 ?_
    refine r_aloadR0 dL_law_289 ?_
    refine r_iload4 dL_law_290 ?_
    refine n_iconst dL_law_292 (by decide) (fun r292 e292 => ?_)
    refine n_iadd dL_law_293 (by omega) (fun r293 e293 => ?_)
    refine k_iald (k := i + 2) (v := .int (xs (i + 2))) hT_z (by omega) (by omega) (by omega) rfl dL_law_294 ?_
    refine r_aloadR0 dL_law_295 ?_
    refine r_iload4 dL_law_296 ?_
    refine n_iconst dL_law_298 (by decide) (fun r298 e298 => ?_)
    refine n_iadd dL_law_299 (by omega) (fun r299 e299 => ?_)
    refine k_iald (k := i + 3) (v := .int (xs (i + 3))) hT_z (by omega) (by omega) (by omega) rfl dL_law_300 ?_
    refine r_aloadR0 dL_law_301 ?_
    refine r_iload4 dL_law_302 ?_
    refine n_iconst dL_law_304 (by decide) (fun r304 e304 => ?_)
    refine n_iadd dL_law_305 (by omega) (fun r305 e305 => ?_)
    refine k_iald (k := i + 4) (v := .int (xs (i + 4))) hT_z (by omega) (by omega) (by omega) rfl dL_law_306 ?_
    refine r_aloadR0 dL_law_307 ?_
    refine r_iload4 dL_law_308 ?_
    refine n_iconst dL_law_310 (by decide) (fun r310 e310 => ?_)
    refine n_iadd dL_law_311 (by omega) (fun r311 e311 => ?_)
    refine k_iald (k := i + 5) (v := .int (xs (i + 5))) hT_z (by omega) (by omega) (by omega) rfl dL_law_312 ?_
    refine q_callV5 zm_RL_144 dL_law_313 (shM_k hs) (by decide) rfl (by first | exact Nat.le_of_ble_eq_true rfl | omega | (dsimp only; omega)) (by first | exact Nat.le_of_ble_eq_true rfl | omega | (dsimp only; omega)) (by first | exact Nat.le_of_ble_eq_true rfl | omega | (dsimp only; omega)) (by first | exact Nat.le_of_ble_eq_true rfl | omega | (dsimp only; omega)) (by first | exact Nat.le_of_ble_eq_true rfl | omega | (dsimp only; omega)) (s_X12_feed G hs hM2.2.2.2.2.2.1 h_z.1.2.2.2.2.2.2.2.2.2.2.2.2.1 (fun hy r6 f2_z e6_z o6 => ?_) (fun hy r6 f2_z e6_z o6 o7 o8 o9 => ?_))
    · have hI2 := lwI_mf h_z (frM_su o6 (by decide) (by decide))
      have he9 : rc.toInt = r6.toInt := by rw [ec, e6_z]
      refine t_iceq (t := 2729) dL_law_316 (by decide) (fun h316 => ?_) (fun h316 => False.elim (by omega))
      refine kk _ _ _ _ _ _ _ _ _ _ _ _ _ _ ?_ ?_ (lwI_m hI2 (by omega))
      · first | omega | (dsimp only; omega)
      · first | omega | (dsimp only; omega)
    · exact False.elim (by omega)
  · have hC2 := lwC_fed h_z.1 hc_z hq
    have hM2 := lwM_e (f2_z := f1_z) (j2 := j) h_z.2 (fun q h1 h2 => hq.1 q (by omega) (by omega)) (fun _ _ _ => rfl)
    have hs := hC2.2.2.2.2.1
    refine r_aloadR2 dL_law_282 ?_
    refine r_aloadR0 dL_law_283 ?_
    refine r_iload4 dL_law_284 ?_
    refine n_iconst dL_law_286 (by decide) (fun r286 e286 => ?_)
    refine n_iadd dL_law_287 (by omega) (fun r287 e287 => ?_)
    refine k_iald (k := i + 1) (v := .int (xs (i + 1))) hT_z (by omega) (by omega) (by omega) rfl dL_law_288 ?_
    refine r_aloadR0 dL_law_289 ?_
    refine r_iload4 dL_law_290 ?_
    refine n_iconst dL_law_292 (by decide) (fun r292 e292 => ?_)
    refine n_iadd dL_law_293 (by omega) (fun r293 e293 => ?_)
    refine k_iald (k := i + 2) (v := .int (xs (i + 2))) hT_z (by omega) (by omega) (by omega) rfl dL_law_294 ?_
    refine r_aloadR0 dL_law_295 ?_
    refine r_iload4 dL_law_296 ?_
    refine n_iconst dL_law_298 (by decide) (fun r298 e298 => ?_)
    refine n_iadd dL_law_299 (by omega) (fun r299 e299 => ?_)
    refine k_iald (k := i + 3) (v := .int (xs (i + 3))) hT_z (by omega) (by omega) (by omega) rfl dL_law_300 ?_
    refine r_aloadR0 dL_law_301 ?_
    refine r_iload4 dL_law_302 ?_
    refine n_iconst dL_law_304 (by decide) (fun r304 e304 => ?_)
    refine n_iadd dL_law_305 (by omega) (fun r305 e305 => ?_)
    refine k_iald (k := i + 4) (v := .int (xs (i + 4))) hT_z (by omega) (by omega) (by omega) rfl dL_law_306 ?_
    refine r_aloadR0 dL_law_307 ?_
    refine r_iload4 dL_law_308 ?_
    refine n_iconst dL_law_310 (by decide) (fun r310 e310 => ?_)
    refine n_iadd dL_law_311 (by omega) (fun r311 e311 => ?_)
    refine k_iald (k := i + 5) (v := .int (xs (i + 5))) hT_z (by omega) (by omega) (by omega) rfl dL_law_312 ?_
    refine q_callV5 zm_RL_144 dL_law_313 (shM_k hs) (by decide) rfl (by first | exact Nat.le_of_ble_eq_true rfl | omega | (dsimp only; omega)) (by first | exact Nat.le_of_ble_eq_true rfl | omega | (dsimp only; omega)) (by first | exact Nat.le_of_ble_eq_true rfl | omega | (dsimp only; omega)) (by first | exact Nat.le_of_ble_eq_true rfl | omega | (dsimp only; omega)) (by first | exact Nat.le_of_ble_eq_true rfl | omega | (dsimp only; omega)) (s_X12_feed G hs hM2.2.2.2.2.2.1 h_z.1.2.2.2.2.2.2.2.2.2.2.2.2.1 (fun hy r6 f2_z e6_z o6 => ?_) (fun hy r6 f2_z e6_z o6 o7 o8 o9 => ?_))
    · exact False.elim (by omega)
    · have hI2 := And.intro (lwC_f (j2 := j) hC2 (fun q hq => o6.1 q (by omega)) (fun e => wyI_e e (fun r h1 h2 => o6.1 _ (by omega))) (fun e => wyI_e e (fun r h1 h2 => o6.1 _ (by omega))) (fun _ _ => rfl)) (lwM_fed hM2 o6 o7 o8 o9)
      have he9 : rc.toInt = r6.toInt := by rw [ec, e6_z]
      refine t_iceq (t := 2729) dL_law_316 (by decide) (fun h316 => ?_) (fun h316 => False.elim (by omega))
      refine kk _ _ _ _ _ _ _ _ _ _ _ _ _ _ ?_ ?_ (lwI_m hI2 (by omega))
      · first | omega | (dsimp only; omega)
      · first | omega | (dsimp only; omega)
