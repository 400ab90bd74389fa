/-! the law: the cases, sixth part -/
set_option maxHeartbeats 4000000 in
set_option maxRecDepth 100000 in
theorem lc_2 {g : zGT} {Rm : Room} {QQ : List Frame → Array Value → State → State → Prop} {hh : List (Nat × Nat × Nat × Nat)} {nm : String} {w : zW} {f : Nat → Nat → Int32} {j : Nat → Nat → Int64} {s X L i N : Nat} {xs : Nat → Int32} {T : zTb} {ty : Nat → zTy} {im : Nat → Option zTb} {p : Nat} {B : Nat → Nat} {th pl : Int} {iv : Int32} {u5 u6 u7 : Option Value} {b : Nat × Nat} (G : zGok g) (hfr : 2048 ≤ Rm.frames) (hlo : 84000 ≤ Rm.locals) (hb1 : b.1 + 951 ≤ Rm.cells) (hb2 : b.2 + 1006 ≤ Rm.slots) (hT_z : ∀ U, g.2.2.2 U → va_T .int s L (fun k => .int (xs k)) (zA g.2.2.1) U U.heap) (hi_z : iv.toInt = (i : Nat)) (hiL : i + 6 ≤ L) (hL : L ≤ 3072) (h_z : lwI w f j X T ty im p B th pl N) (hN_z : N < 1900000000) (kk : ∀ (u5 u6 u7 : Option Value) w2 f2_z j2 b2, b2.1 ≤ b.1 + 951 → b2.2 ≤ b.2 + 1006 → lwI w2 f2_z j2 X T ty im p B th pl (N + 1) → zR (zVg g Rm QQ hh nm 8 (some .boolean)) cL_law RL 2729 [some (.ref s), some (.ref X), some (.ref (X + 240)), some (.ref (X + 261)), some (.int iv), u5, u6, u7] [] (zM w2 f2_z j2) b2) : zR (zVg g Rm QQ hh nm 8 (some .boolean)) cL_law RL 377 [some (.ref s), some (.ref X), some (.ref (X + 240)), some (.ref (X + 261)), some (.int iv), u5, u6, u7] [] (zM w f j) b := by
  have hx := h_z.1.1
  have hX := shX_k hx
  have hO := h_z.1.2.2.2.1
  have hs := h_z.1.2.2.2.2.1
  have ht := h_z.1.2.2.2.2.2.1
  have hw := tb_wf ht
  have hS2 := h_z.1.2.1
  have hz := h_z.1.2.2.1
  refine r_aloadR1 dL_law_377 ?_
  refine r_aloadR0 dL_law_378 ?_
  refine r_iload4 dL_law_379 ?_
  refine n_iconst dL_law_381 (by decide) (fun r381 e381 => ?_)
  refine n_iadd dL_law_382 (by omega) (fun r382 e382 => ?_)
  refine k_iald (k := i + 1) (v := .int (xs (i + 1))) hT_z (by omega) (by omega) (by omega) rfl dL_law_383 ?_
  refine q_callV1 zm_RL_154 dL_law_384 hX (by decide) rfl (by first | exact Nat.le_of_ble_eq_true rfl | omega | (dsimp only; omega)) (by first | exact Nat.le_of_ble_eq_true rfl | omega | (dsimp only; omega)) (by first | exact Nat.le_of_ble_eq_true rfl | omega | (dsimp only; omega)) (by first | exact Nat.le_of_ble_eq_true rfl | omega | (dsimp only; omega)) (by first | exact Nat.le_of_ble_eq_true rfl | omega | (dsimp only; omega)) (s_X11_fault G hx (fun rc ec => ?_))
  refine r_aloadR2 dL_law_387 ?_
  refine r_aloadR0 dL_law_388 ?_
  refine r_iload4 dL_law_389 ?_
  refine n_iconst dL_law_391 (by decide) (fun r391 e391 => ?_)
  refine n_iadd dL_law_392 (by omega) (fun r392 e392 => ?_)
  refine k_iald (k := i + 1) (v := .int (xs (i + 1))) hT_z (by omega) (by omega) (by omega) rfl dL_law_393 ?_
  refine q_callV1 zm_RL_157 dL_law_394 (shM_k hs) (by decide) rfl (by first | exact Nat.le_of_ble_eq_true rfl | omega | (dsimp only; omega)) (by first | exact Nat.le_of_ble_eq_true rfl | omega | (dsimp only; omega)) (by first | exact Nat.le_of_ble_eq_true rfl | omega | (dsimp only; omega)) (by first | exact Nat.le_of_ble_eq_true rfl | omega | (dsimp only; omega)) (by first | exact Nat.le_of_ble_eq_true rfl | omega | (dsimp only; omega)) (s_X12_fault G hs (fun r6 f2_z e6_z o6 => ?_))
  have hI2 := lwI_mf h_z (frM_su o6 (by decide) (by decide))
  have he9 : rc.toInt = r6.toInt := by rw [ec, e6_z, h_z.1.2.2.2.2.2.2.2.2.2.2.2.2.2.2.2.1, h_z.1.2.2.2.2.2.2.2.2.2.2.2.2.2.2.2.2, h_z.2.2.2.2.2.2.2.2.1, h_z.2.2.2.2.2.2.2.2.2]
  refine t_iceq (t := 2729) dL_law_397 (by decide) (fun h397 => ?_) (fun h397 => False.elim (by omega))
  refine kk _ _ _ _ _ _ _ ?_ ?_ (lwI_m hI2 (by omega))
  · first | omega | (dsimp only; omega)
  · first | omega | (dsimp only; omega)
