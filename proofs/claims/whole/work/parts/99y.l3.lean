/-! the law: the cases, third part -/
theorem lwI_mf {w : zW} {f f2_z : Nat → Nat → Int32} {j : Nat → Nat → Int64} {X N : Nat} {T : zTb} {ty : Nat → zTy} {im : Nat → Option zTb} {p : Nat} {B : Nat → Nat} {th pl : Int} (h_z : lwI w f j X T ty im p B th pl N) (o : frM (X + 239) [6, 7, 8, 9, 10, 11, 12, 13, 14, 16, 17] [4, 33, 34] f f2_z) : lwI w f2_z j X T ty im p B th pl N := by
  obtain ⟨h1, a1, a2, a3, a4, a5, a6, a7, a8, a9⟩ := h_z
  have e1_z : f2_z (X + 239 + 1) = f (X + 239 + 1) := o.2.1 1 (by decide) (by decide) (by decide)
  have e3_z : f2_z (X + 239 + 3) = f (X + 239 + 3) := o.2.1 3 (by decide) (by decide) (by decide)
  have e4_z : f2_z (X + 239 + 4) = f (X + 239 + 4) := o.2.1 4 (by decide) (by decide) (by decide)
  have e5_z : f2_z (X + 239 + 5) = f (X + 239 + 5) := o.2.1 5 (by decide) (by decide) (by decide)
  have e15_z : f2_z (X + 239 + 15) = f (X + 239 + 15) := o.2.1 15 (by decide) (by decide) (by decide)
  have e18_z : f2_z (X + 239 + 18) = f (X + 239 + 18) := o.2.1 18 (by decide) (by decide) (by decide)
  have e19_z : f2_z (X + 239 + 19) = f (X + 239 + 19) := o.2.1 19 (by decide) (by decide) (by decide)
  have e37 : f2_z (X + 239) 37 = f (X + 239) 37 := o.2.2 37 (by decide)
  exact ⟨lwC_f h1 (fun q hq => o.1 q (by omega)) (fun e => wyI_e e (fun r h1 h2 => o.1 _ (by omega))) (fun e => wyI_e e (fun r h1 h2 => o.1 _ (by omega))) (fun _ _ => rfl), by rw [e1_z]; exact a1, fun t ht => ctTm_of (a2 t ht) (congrFun e18_z t) (congrFun e19_z t) (fun _ _ => rfl), fun i hi_z => imM_of (a3 i hi_z) (congrFun e4_z i) (fun k _ => congrFun e3_z _), fun i hi_z => by rw [e15_z, e37]; exact a4 i hi_z, by rw [e37]; exact a5, by rw [o.2.2 6 (by decide)]; exact a6, fun q hq => by rw [e5_z]; exact a7 q hq, by rw [o.2.2 14 (by decide)]; exact a8, by rw [o.2.2 15 (by decide)]; exact a9⟩
set_option maxHeartbeats 4000000 in
set_option maxRecDepth 100000 in
theorem lc_18 {g : zGT} {Rm : Room} {QQ : List Frame → Array Value → State → State → Prop} {hh : List (Nat × Nat × Nat × Nat)} {nm : String} {w : zW} {f : Nat → Nat → Int32} {j : Nat → Nat → Int64} {s X L i N : Nat} {xs : Nat → Int32} {T : zTb} {ty : Nat → zTy} {im : Nat → Option zTb} {p : Nat} {B : Nat → Nat} {th pl : Int} {iv : Int32} {u5 u6 u7 : Option Value} {b : Nat × Nat} (G : zGok g) (hfr : 2048 ≤ Rm.frames) (hlo : 84000 ≤ Rm.locals) (hb1 : b.1 + 951 ≤ Rm.cells) (hb2 : b.2 + 1006 ≤ Rm.slots) (hT_z : ∀ U, g.2.2.2 U → va_T .int s L (fun k => .int (xs k)) (zA g.2.2.1) U U.heap) (hi_z : iv.toInt = (i : Nat)) (hiL : i + 6 ≤ L) (hL : L ≤ 3072) (h_z : lwI w f j X T ty im p B th pl N) (hN_z : N < 1900000000)  (kk : ∀ (u5 u6 u7 : Option Value) w2 f2_z j2 b2, b2.1 ≤ b.1 + 951 → b2.2 ≤ b.2 + 1006 → lwI w2 f2_z j2 X T ty im p B th pl (N + 1) → zR (zVg g Rm QQ hh nm 8 (some .boolean)) cL_law RL 2729 [some (.ref s), some (.ref X), some (.ref (X + 239)), some (.ref (X + 260)), some (.int iv), u5, u6, u7] [] (zM w2 f2_z j2) b2) : zR (zVg g Rm QQ hh nm 8 (some .boolean)) cL_law RL 1161 [some (.ref s), some (.ref X), some (.ref (X + 239)), some (.ref (X + 260)), some (.int iv), u5, u6, u7] [] (zM w f j) b := by
  have hx := h_z.1.1
  have hX := shX_k hx
  have hO := h_z.1.2.2.2.1
  have hs := h_z.1.2.2.2.2.1
  have ht := h_z.1.2.2.2.2.2.1
  have hw := tb_wf ht
  have hS2 := h_z.1.2.1
  have hz := h_z.1.2.2.1
  refine r_aloadR1 dL_law_1161 ?_
  refine r_aloadR0 dL_law_1162 ?_
  refine r_iload4 dL_law_1163 ?_
  refine n_iconst dL_law_1165 (by decide) (fun r1165 e1165 => ?_)
  refine n_iadd dL_law_1166 (by omega) (fun r1166 e1166 => ?_)
  refine k_iald (k := i + 1) (v := .int (xs (i + 1))) hT_z (by omega) (by omega) (by omega) rfl dL_law_1167 ?_
  refine r_aloadR0 dL_law_1168 ?_
  refine r_iload4 dL_law_1169 ?_
  refine n_iconst dL_law_1171 (by decide) (fun r1171 e1171 => ?_)
  refine n_iadd dL_law_1172 (by omega) (fun r1172 e1172 => ?_)
  refine k_iald (k := i + 2) (v := .int (xs (i + 2))) hT_z (by omega) (by omega) (by omega) rfl dL_law_1173 ?_
  refine r_aloadR3 dL_law_1174 ?_
  refine q_callW (As := [.ref X, .int (xs (i + 1)), .int (xs (i + 2)), .ref (X + 260)]) (rest := []) zw_judge dL_law_1175 rfl rfl (by decide) (by first | exact Nat.le_of_ble_eq_true rfl | omega | (dsimp only; omega)) (by first | exact Nat.le_of_ble_eq_true rfl | omega | (dsimp only; omega)) (by first | exact Nat.le_of_ble_eq_true rfl | omega | (dsimp only; omega)) (by first | exact Nat.le_of_ble_eq_true rfl | omega | (dsimp only; omega)) (w_judge G hX (s_X11_judge G hx ht h_z.1.2.2.2.2.2.2.2.2.1  (fun hc0 n hn => Or.inl ⟨rfl, fun k1_z ek => ?_⟩) (fun hc0 hc1 n hn => Or.inr (Or.inl ⟨rfl, fun k1_z ek => ?_⟩)) (fun hc0 hc1 hc2 n hn => Or.inr (Or.inr (⟨rfl, fun k1_z ek => ?_⟩))) (fun hc0 s l hc1 hc2 rc f1_z ec hq => ⟨rc, w, f1_z, j, rfl, rfl, hO.1, hO.2, fun k1_z y1 ek ey => ?_⟩)))
  · have hI1 := lwI_s (n := n) h_z hn
    rw [show zsS (zM w f j) n = zM (zsS w n) f j from rfl]
    have hs := hI1.1.2.2.2.2.1
    have hO := hI1.1.2.2.2.1
    refine r_istore5 dL_law_1178 rfl ?_
    refine r_aloadR2 dL_law_1180 ?_
    refine r_aloadR0 dL_law_1181 ?_
    refine r_iload4 dL_law_1182 ?_
    refine n_iconst dL_law_1184 (by decide) (fun r1184 e1184 => ?_)
    refine n_iadd dL_law_1185 (by omega) (fun r1185 e1185 => ?_)
    refine k_iald (k := i + 1) (v := .int (xs (i + 1))) hT_z (by omega) (by omega) (by omega) rfl dL_law_1186 ?_
    refine r_aloadR0 dL_law_1187 ?_
    refine r_iload4 dL_law_1188 ?_
    refine n_iconst dL_law_1190 (by decide) (fun r1190 e1190 => ?_)
    refine n_iadd dL_law_1191 (by omega) (fun r1191 e1191 => ?_)
    refine k_iald (k := i + 2) (v := .int (xs (i + 2))) hT_z (by omega) (by omega) (by omega) rfl dL_law_1192 ?_
    refine q_callV2 zm_RL_212 dL_law_1193 (shM_k hs) (by decide) rfl (by decide) (by first | exact Nat.le_of_ble_eq_true rfl | omega | (dsimp only; omega)) (by first | exact Nat.le_of_ble_eq_true rfl | omega | (dsimp only; omega)) (by first | exact Nat.le_of_ble_eq_true rfl | omega | (dsimp only; omega)) (by first | exact Nat.le_of_ble_eq_true rfl | omega | (dsimp only; omega)) (s_X12_judge G hs hI1.2.1 hw hI1.2.2.1 (fun hy0 r6 f2_z o6 t6 => ?_) (fun hy0 hy1 r6 f2_z o6 t6 => ?_) (fun hy0 hy1 hy2 r6 f2_z o6 t6 => ?_) (fun hy0 s9 l9 hy1 hy2 r6 f2_z e6_z o6 t6 => ?_))
    · have hI2 := lwI_mf hI1 (frM_su o6 (by decide) (by decide))
      refine r_istore6 dL_law_1196 rfl ?_
      refine r_aloadR2 dL_law_1198 ?_
      refine q_callV0 zm_RL_151 dL_law_1199 (shM_k hs) (by decide) rfl (by first | exact Nat.le_of_ble_eq_true rfl | omega | (dsimp only; omega)) (by first | exact Nat.le_of_ble_eq_true rfl | omega | (dsimp only; omega)) (by first | exact Nat.le_of_ble_eq_true rfl | omega | (dsimp only; omega)) (by first | exact Nat.le_of_ble_eq_true rfl | omega | (dsimp only; omega)) (by first | exact Nat.le_of_ble_eq_true rfl | omega | (dsimp only; omega)) (s_X12_thrown G hs (fun r7 e7_z => ?_))
      have e7i : r7.toInt = (f2_z (X + 239) 4).toInt := by rw [e7_z]
      refine r_iload5 dL_law_1202 ?_
      refine t_iceq (t := 1209) dL_law_1204 (by decide) (fun h1204 => ?_) (fun h1204 => False.elim (by omega))
      refine r_iload5 dL_law_1209 ?_
      refine t_ifne (t := 1226) dL_law_1211 (by decide) (fun h1211 => ?_) (fun h1211 => False.elim (by omega))
      refine r_goto (t := 2729) dL_law_1226 (by decide) ?_
      refine kk _ _ _ _ _ _ _ ?_ ?_ (lwI_m hI2 (by omega))
      · first | omega | (dsimp only; omega)
      · first | omega | (dsimp only; omega)
    · exact False.elim (by first | omega | (rw [hc1] at hy1; cases hy1; done) | exact hc1 hy1 | exact hy1 hc1 | (cases Option.some.inj (hc1.symm.trans hy1); first | exact hc2 hy2 | exact hy2 hc2))
    · exact False.elim (by first | omega | (rw [hc1] at hy1; cases hy1; done) | exact hc1 hy1 | exact hy1 hc1 | (cases Option.some.inj (hc1.symm.trans hy1); first | exact hc2 hy2 | exact hy2 hc2))
    · exact False.elim (by first | omega | (rw [hc1] at hy1; cases hy1; done) | exact hc1 hy1 | exact hy1 hc1 | (cases Option.some.inj (hc1.symm.trans hy1); first | exact hc2 hy2 | exact hy2 hc2))
  · have hI1 := lwI_s (n := n) h_z hn
    rw [show zsS (zM w f j) n = zM (zsS w n) f j from rfl]
    have hs := hI1.1.2.2.2.2.1
    have hO := hI1.1.2.2.2.1
    refine r_istore5 dL_law_1178 rfl ?_
    refine r_aloadR2 dL_law_1180 ?_
    refine r_aloadR0 dL_law_1181 ?_
    refine r_iload4 dL_law_1182 ?_
    refine n_iconst dL_law_1184 (by decide) (fun r1184 e1184 => ?_)
    refine n_iadd dL_law_1185 (by omega) (fun r1185 e1185 => ?_)
    refine k_iald (k := i + 1) (v := .int (xs (i + 1))) hT_z (by omega) (by omega) (by omega) rfl dL_law_1186 ?_
    refine r_aloadR0 dL_law_1187 ?_
    refine r_iload4 dL_law_1188 ?_
    refine n_iconst dL_law_1190 (by decide) (fun r1190 e1190 => ?_)
    refine n_iadd dL_law_1191 (by omega) (fun r1191 e1191 => ?_)
    refine k_iald (k := i + 2) (v := .int (xs (i + 2))) hT_z (by omega) (by omega) (by omega) rfl dL_law_1192 ?_
    refine q_callV2 zm_RL_212 dL_law_1193 (shM_k hs) (by decide) rfl (by decide) (by first | exact Nat.le_of_ble_eq_true rfl | omega | (dsimp only; omega)) (by first | exact Nat.le_of_ble_eq_true rfl | omega | (dsimp only; omega)) (by first | exact Nat.le_of_ble_eq_true rfl | omega | (dsimp only; omega)) (by first | exact Nat.le_of_ble_eq_true rfl | omega | (dsimp only; omega)) (s_X12_judge G hs hI1.2.1 hw hI1.2.2.1 (fun hy0 r6 f2_z o6 t6 => ?_) (fun hy0 hy1 r6 f2_z o6 t6 => ?_) (fun hy0 hy1 hy2 r6 f2_z o6 t6 => ?_) (fun hy0 s9 l9 hy1 hy2 r6 f2_z e6_z o6 t6 => ?_))
    · exact False.elim (by first | omega | (rw [hc1] at hy1; cases hy1; done) | exact hc1 hy1 | exact hy1 hc1 | (cases Option.some.inj (hc1.symm.trans hy1); first | exact hc2 hy2 | exact hy2 hc2))
    · have hI2 := lwI_mf hI1 (frM_su o6 (by decide) (by decide))
      refine r_istore6 dL_law_1196 rfl ?_
      refine r_aloadR2 dL_law_1198 ?_
      refine q_callV0 zm_RL_151 dL_law_1199 (shM_k hs) (by decide) rfl (by first | exact Nat.le_of_ble_eq_true rfl | omega | (dsimp only; omega)) (by first | exact Nat.le_of_ble_eq_true rfl | omega | (dsimp only; omega)) (by first | exact Nat.le_of_ble_eq_true rfl | omega | (dsimp only; omega)) (by first | exact Nat.le_of_ble_eq_true rfl | omega | (dsimp only; omega)) (by first | exact Nat.le_of_ble_eq_true rfl | omega | (dsimp only; omega)) (s_X12_thrown G hs (fun r7 e7_z => ?_))
      have e7i : r7.toInt = (f2_z (X + 239) 4).toInt := by rw [e7_z]
      refine r_iload5 dL_law_1202 ?_
      refine t_iceq (t := 1209) dL_law_1204 (by decide) (fun h1204 => ?_) (fun h1204 => False.elim (by omega))
      refine r_iload5 dL_law_1209 ?_
      refine t_ifne (t := 1226) dL_law_1211 (by decide) (fun h1211 => ?_) (fun h1211 => False.elim (by omega))
      refine r_goto (t := 2729) dL_law_1226 (by decide) ?_
      refine kk _ _ _ _ _ _ _ ?_ ?_ (lwI_m hI2 (by omega))
      · first | omega | (dsimp only; omega)
      · first | omega | (dsimp only; omega)
    · exact False.elim (by first | omega | (rw [hc1] at hy1; cases hy1; done) | exact hc1 hy1 | exact hy1 hc1 | (cases Option.some.inj (hc1.symm.trans hy1); first | exact hc2 hy2 | exact hy2 hc2))
    · exact False.elim (by first | omega | (rw [hc1] at hy1; cases hy1; done) | exact hc1 hy1 | exact hy1 hc1 | (cases Option.some.inj (hc1.symm.trans hy1); first | exact hc2 hy2 | exact hy2 hc2))
  · have hI1 := lwI_s (n := n) h_z hn
    rw [show zsS (zM w f j) n = zM (zsS w n) f j from rfl]
    have hs := hI1.1.2.2.2.2.1
    have hO := hI1.1.2.2.2.1
    refine r_istore5 dL_law_1178 rfl ?_
    refine r_aloadR2 dL_law_1180 ?_
    refine r_aloadR0 dL_law_1181 ?_
    refine r_iload4 dL_law_1182 ?_
    refine n_iconst dL_law_1184 (by decide) (fun r1184 e1184 => ?_)
    refine n_iadd dL_law_1185 (by omega) (fun r1185 e1185 => ?_)
    refine k_iald (k := i + 1) (v := .int (xs (i + 1))) hT_z (by omega) (by omega) (by omega) rfl dL_law_1186 ?_
    refine r_aloadR0 dL_law_1187 ?_
    refine r_iload4 dL_law_1188 ?_
    refine n_iconst dL_law_1190 (by decide) (fun r1190 e1190 => ?_)
    refine n_iadd dL_law_1191 (by omega) (fun r1191 e1191 => ?_)
    refine k_iald (k := i + 2) (v := .int (xs (i + 2))) hT_z (by omega) (by omega) (by omega) rfl dL_law_1192 ?_
    refine q_callV2 zm_RL_212 dL_law_1193 (shM_k hs) (by decide) rfl (by decide) (by first | exact Nat.le_of_ble_eq_true rfl | omega | (dsimp only; omega)) (by first | exact Nat.le_of_ble_eq_true rfl | omega | (dsimp only; omega)) (by first | exact Nat.le_of_ble_eq_true rfl | omega | (dsimp only; omega)) (by first | exact Nat.le_of_ble_eq_true rfl | omega | (dsimp only; omega)) (s_X12_judge G hs hI1.2.1 hw hI1.2.2.1 (fun hy0 r6 f2_z o6 t6 => ?_) (fun hy0 hy1 r6 f2_z o6 t6 => ?_) (fun hy0 hy1 hy2 r6 f2_z o6 t6 => ?_) (fun hy0 s9 l9 hy1 hy2 r6 f2_z e6_z o6 t6 => ?_))
    · exact False.elim (by first | omega | (rw [hc1] at hy1; cases hy1; done) | exact hc1 hy1 | exact hy1 hc1 | (cases Option.some.inj (hc1.symm.trans hy1); first | exact hc2 hy2 | exact hy2 hc2))
    · exact False.elim (by first | omega | (rw [hc1] at hy1; cases hy1; done) | exact hc1 hy1 | exact hy1 hc1 | (cases Option.some.inj (hc1.symm.trans hy1); first | exact hc2 hy2 | exact hy2 hc2))
    · have hI2 := lwI_mf hI1 (frM_su o6 (by decide) (by decide))
      refine r_istore6 dL_law_1196 rfl ?_
      refine r_aloadR2 dL_law_1198 ?_
      refine q_callV0 zm_RL_151 dL_law_1199 (shM_k hs) (by decide) rfl (by first | exact Nat.le_of_ble_eq_true rfl | omega | (dsimp only; omega)) (by first | exact Nat.le_of_ble_eq_true rfl | omega | (dsimp only; omega)) (by first | exact Nat.le_of_ble_eq_true rfl | omega | (dsimp only; omega)) (by first | exact Nat.le_of_ble_eq_true rfl | omega | (dsimp only; omega)) (by first | exact Nat.le_of_ble_eq_true rfl | omega | (dsimp only; omega)) (s_X12_thrown G hs (fun r7 e7_z => ?_))
      have e7i : r7.toInt = (f2_z (X + 239) 4).toInt := by rw [e7_z]
      refine r_iload5 dL_law_1202 ?_
      refine t_iceq (t := 1209) dL_law_1204 (by decide) (fun h1204 => ?_) (fun h1204 => False.elim (by omega))
      refine r_iload5 dL_law_1209 ?_
      refine t_ifne (t := 1226) dL_law_1211 (by decide) (fun h1211 => ?_) (fun h1211 => False.elim (by omega))
      refine r_goto (t := 2729) dL_law_1226 (by decide) ?_
      refine kk _ _ _ _ _ _ _ ?_ ?_ (lwI_m hI2 (by omega))
      · first | omega | (dsimp only; omega)
      · first | omega | (dsimp only; omega)
    · exact False.elim (by first | omega | (rw [hc1] at hy1; cases hy1; done) | exact hc1 hy1 | exact hy1 hc1 | (cases Option.some.inj (hc1.symm.trans hy1); first | exact hc2 hy2 | exact hy2 hc2))
  · have hI1 := lwI_o (y := y1) (lwI_cq h_z hq)
    have hs := hI1.1.2.2.2.2.1
    have hj1 : zu j (X + 260) 0 y1 (X + 260) 0 = y1 := zu_at
    obtain ⟨j1, hj⟩ : ∃ j9, j9 = zu j (X + 260) 0 y1 := ⟨_, rfl⟩
    rw [← hj] at hI1 hj1 ⊢
    refine r_istore5 dL_law_1178 rfl ?_
    refine r_aloadR2 dL_law_1180 ?_
    refine r_aloadR0 dL_law_1181 ?_
    refine r_iload4 dL_law_1182 ?_
    refine n_iconst dL_law_1184 (by decide) (fun r1184 e1184 => ?_)
    refine n_iadd dL_law_1185 (by omega) (fun r1185 e1185 => ?_)
    refine k_iald (k := i + 1) (v := .int (xs (i + 1))) hT_z (by omega) (by omega) (by omega) rfl dL_law_1186 ?_
    refine r_aloadR0 dL_law_1187 ?_
    refine r_iload4 dL_law_1188 ?_
    refine n_iconst dL_law_1190 (by decide) (fun r1190 e1190 => ?_)
    refine n_iadd dL_law_1191 (by omega) (fun r1191 e1191 => ?_)
    refine k_iald (k := i + 2) (v := .int (xs (i + 2))) hT_z (by omega) (by omega) (by omega) rfl dL_law_1192 ?_
    refine q_callV2 zm_RL_212 dL_law_1193 (shM_k hs) (by decide) rfl (by decide) (by first | exact Nat.le_of_ble_eq_true rfl | omega | (dsimp only; omega)) (by first | exact Nat.le_of_ble_eq_true rfl | omega | (dsimp only; omega)) (by first | exact Nat.le_of_ble_eq_true rfl | omega | (dsimp only; omega)) (by first | exact Nat.le_of_ble_eq_true rfl | omega | (dsimp only; omega)) (s_X12_judge G hs hI1.2.1 hw hI1.2.2.1 (fun hy0 r6 f2_z o6 t6 => ?_) (fun hy0 hy1 r6 f2_z o6 t6 => ?_) (fun hy0 hy1 hy2 r6 f2_z o6 t6 => ?_) (fun hy0 s9 l9 hy1 hy2 r6 f2_z e6_z o6 t6 => ?_))
    · exact False.elim (by first | omega | (rw [hc1] at hy1; cases hy1; done) | exact hc1 hy1 | exact hy1 hc1 | (cases Option.some.inj (hc1.symm.trans hy1); first | exact hc2 hy2 | exact hy2 hc2))
    · exact False.elim (by first | omega | (rw [hc1] at hy1; cases hy1; done) | exact hc1 hy1 | exact hy1 hc1 | (cases Option.some.inj (hc1.symm.trans hy1); first | exact hc2 hy2 | exact hy2 hc2))
    · exact False.elim (by first | omega | (rw [hc1] at hy1; cases hy1; done) | exact hc1 hy1 | exact hy1 hc1 | (cases Option.some.inj (hc1.symm.trans hy1); first | exact hc2 hy2 | exact hy2 hc2))
    · cases Option.some.inj (hc1.symm.trans hy1)
      have hI2 := lwI_mf hI1 (frM_su o6 (by decide) (by decide))
      have hl2 : (j1 (X + 260) 0).toInt = y1.toInt := by rw [hj1]
      have he9 : rc.toInt = r6.toInt := by first | (rw [ec, e6_z]; done) | omega
      refine r_istore6 dL_law_1196 rfl ?_
      refine r_aloadR2 dL_law_1198 ?_
      refine q_callV0 zm_RL_151 dL_law_1199 (shM_k hs) (by decide) rfl (by first | exact Nat.le_of_ble_eq_true rfl | omega | (dsimp only; omega)) (by first | exact Nat.le_of_ble_eq_true rfl | omega | (dsimp only; omega)) (by first | exact Nat.le_of_ble_eq_true rfl | omega | (dsimp only; omega)) (by first | exact Nat.le_of_ble_eq_true rfl | omega | (dsimp only; omega)) (by first | exact Nat.le_of_ble_eq_true rfl | omega | (dsimp only; omega)) (s_X12_thrown G hs (fun r7 e7_z => ?_))
      have e7i : r7.toInt = (f2_z (X + 239) 4).toInt := by rw [e7_z]
      refine r_iload5 dL_law_1202 ?_
      refine t_iceq (t := 1209) dL_law_1204 (by decide) (fun h1204 => ?_) (fun h1204 => False.elim (by omega))
      refine r_iload5 dL_law_1209 ?_
      refine t_ifne (t := 1226) dL_law_1211 (by decide) (fun h1211 => False.elim (by omega)) (fun h1211 => ?_)
      refine r_aloadR3 dL_law_1214 ?_
      refine n_iconst dL_law_1215 (by decide) (fun r1215 e1215 => ?_)
      refine m_lald (k := 0) (x := (j1 (X + 260) 0)) dL_law_1216 hO.1 hO.2 (by omega) (by omega) (rfl) ?_
      refine r_iload6 dL_law_1217 ?_
      refine n_i2l dL_law_1219 (fun r1219 e1219 => ?_)
      refine n_lcmp dL_law_1220 (fun r1220 e1220 => ?_)
      unfold zcmp at e1220
      refine t_ifeq (t := 1226) dL_law_1221 (by decide) (fun h1221 => ?_) (fun h1221 => False.elim (by omega))
      refine r_goto (t := 2729) dL_law_1226 (by decide) ?_
      refine kk _ _ _ _ _ _ _ ?_ ?_ (lwI_m hI2 (by omega))
      · first | omega | (dsimp only; omega)
      · first | omega | (dsimp only; omega)
set_option maxHeartbeats 4000000 in
set_option maxRecDepth 100000 in
theorem lc_32 {g : zGT} {Rm : Room} {QQ : List Frame → Array Value → State → State → Prop} {hh : List (Nat × Nat × Nat × Nat)} {nm : String} {w : zW} {f : Nat → Nat → Int32} {j : Nat → Nat → Int64} {s X L i N : Nat} {xs : Nat → Int32} {T : zTb} {ty : Nat → zTy} {im : Nat → Option zTb} {p : Nat} {B : Nat → Nat} {th pl : Int} {iv : Int32} {u5 u6 u7 : Option Value} {b : Nat × Nat} (G : zGok g) (hfr : 2048 ≤ Rm.frames) (hlo : 84000 ≤ Rm.locals) (hb1 : b.1 + 951 ≤ Rm.cells) (hb2 : b.2 + 1006 ≤ Rm.slots) (hT_z : ∀ U, g.2.2.2 U → va_T .int s L (fun k => .int (xs k)) (zA g.2.2.1) U U.heap) (hi_z : iv.toInt = (i : Nat)) (hiL : i + 6 ≤ L) (hL : L ≤ 3072) (h_z : lwI w f j X T ty im p B th pl N) (hN_z : N < 1900000000)  (kk : ∀ (u5 u6 u7 : Option Value) w2 f2_z j2 b2, b2.1 ≤ b.1 + 951 → b2.2 ≤ b.2 + 1006 → lwI w2 f2_z j2 X T ty im p B th pl (N + 4) → zR (zVg g Rm QQ hh nm 8 (some .boolean)) cL_law RL 2729 [some (.ref s), some (.ref X), some (.ref (X + 239)), some (.ref (X + 260)), some (.int iv), u5, u6, u7] [] (zM w2 f2_z j2) b2) : zR (zVg g Rm QQ hh nm 8 (some .boolean)) cL_law RL 1871 [some (.ref s), some (.ref X), some (.ref (X + 239)), some (.ref (X + 260)), some (.int iv), u5, u6, u7] [] (zM w f j) b := by
  have hx := h_z.1.1
  have hX := shX_k hx
  have hO := h_z.1.2.2.2.1
  have hs := h_z.1.2.2.2.2.1
  have ht := h_z.1.2.2.2.2.2.1
  have hw := tb_wf ht
  have hS2 := h_z.1.2.1
  have hz := h_z.1.2.2.1
  refine r_aloadR1 dL_law_1871 ?_
  refine r_aloadR0 dL_law_1872 ?_
  refine r_iload4 dL_law_1873 ?_
  refine n_iconst dL_law_1875 (by decide) (fun r1875 e1875 => ?_)
  refine n_iadd dL_law_1876 (by omega) (fun r1876 e1876 => ?_)
  refine k_iald (k := i + 1) (v := .int (xs (i + 1))) hT_z (by omega) (by omega) (by omega) rfl dL_law_1877 ?_
  refine r_aloadR3 dL_law_1878 ?_
  refine q_callW (As := [.ref X, .int (xs (i + 1)), .ref (X + 260)]) (rest := []) zw_made dL_law_1879 rfl rfl (by decide) (by first | exact Nat.le_of_ble_eq_true rfl | omega | (dsimp only; omega)) (by first | exact Nat.le_of_ble_eq_true rfl | omega | (dsimp only; omega)) (by first | exact Nat.le_of_ble_eq_true rfl | omega | (dsimp only; omega)) (by first | exact Nat.le_of_ble_eq_true rfl | omega | (dsimp only; omega)) (w_made G hX (s_X11_made G hx ht h_z.1.2.2.2.2.2.2.2.2.1 h_z.1.2.2.2.2.2.2.2.1  (fun hc0 n hn => Or.inl ⟨rfl, fun k1_z ek => ?_⟩) (fun hc0 hc1 n hn => Or.inr (Or.inl ⟨rfl, fun k1_z ek => ?_⟩)) (fun hc0 s l hc1 hc2 n hn => Or.inr (Or.inr (⟨rfl, fun k1_z ek => ?_⟩))) (fun hc0 s l hc1 hc2 rc f1_z ec hq => ⟨rc, w, f1_z, j, rfl, rfl, hO.1, hO.2, fun k1_z y1 ek ey => ?_⟩)))
  · have hI1 := lwI_s (n := n) h_z hn
    rw [show zsS (zM w f j) n = zM (zsS w n) f j from rfl]
    have hs := hI1.1.2.2.2.2.1
    have hO := hI1.1.2.2.2.1
    refine r_istore5 dL_law_1882 rfl ?_
    refine r_aloadR2 dL_law_1884 ?_
    refine r_aloadR0 dL_law_1885 ?_
    refine r_iload4 dL_law_1886 ?_
    refine n_iconst dL_law_1888 (by decide) (fun r1888 e1888 => ?_)
    refine n_iadd dL_law_1889 (by omega) (fun r1889 e1889 => ?_)
    refine k_iald (k := i + 1) (v := .int (xs (i + 1))) hT_z (by omega) (by omega) (by omega) rfl dL_law_1890 ?_
    refine q_callV1 zm_RL_257 dL_law_1891 (shM_k hs) (by decide) rfl (by decide) (by first | exact Nat.le_of_ble_eq_true rfl | omega | (dsimp only; omega)) (by first | exact Nat.le_of_ble_eq_true rfl | omega | (dsimp only; omega)) (by first | exact Nat.le_of_ble_eq_true rfl | omega | (dsimp only; omega)) (by first | exact Nat.le_of_ble_eq_true rfl | omega | (dsimp only; omega)) (s_X12_made G hs hI1.2.1 hw hI1.2.2.2.2.1 (by have h9 := hI1.2.2.2.2.2.1; omega) hI1.2.2.1 (fun hy0 r6 f2_z j2 o6 t6 => ?_) (fun hy0 hy1 r6 f2_z j2 o6 t6 => ?_) (fun hy0 s9 l9 hy1 hy2 r6 f2_z j2 o6 t6 => ?_) (fun hy0 s9 l9 hy1 hy2 r6 f2_z j2 e6_z o6 t6 => ?_))
    · have hI2 := lwI_mq hI1 o6
      refine r_istore6 dL_law_1894 rfl ?_
      refine r_aloadR2 dL_law_1896 ?_
      refine q_callV0 zm_RL_151 dL_law_1897 (shM_k hs) (by decide) rfl (by first | exact Nat.le_of_ble_eq_true rfl | omega | (dsimp only; omega)) (by first | exact Nat.le_of_ble_eq_true rfl | omega | (dsimp only; omega)) (by first | exact Nat.le_of_ble_eq_true rfl | omega | (dsimp only; omega)) (by first | exact Nat.le_of_ble_eq_true rfl | omega | (dsimp only; omega)) (by first | exact Nat.le_of_ble_eq_true rfl | omega | (dsimp only; omega)) (s_X12_thrown G hs (fun r7 e7_z => ?_))
      have e7i : r7.toInt = (f2_z (X + 239) 4).toInt := by rw [e7_z]
      refine r_iload5 dL_law_1900 ?_
      refine t_iceq (t := 1907) dL_law_1902 (by decide) (fun h1902 => ?_) (fun h1902 => False.elim (by omega))
      refine r_iload5 dL_law_1907 ?_
      refine t_ifne (t := 1924) dL_law_1909 (by decide) (fun h1909 => ?_) (fun h1909 => False.elim (by omega))
      refine r_goto (t := 2729) dL_law_1924 (by decide) ?_
      refine kk _ _ _ _ _ _ _ ?_ ?_ (lwI_m hI2 (by omega))
      · first | omega | (dsimp only; omega)
      · first | omega | (dsimp only; omega)
    · exact False.elim (by first | omega | (rw [hc1] at hy1; cases hy1; done) | exact hc1 hy1 | exact hy1 hc1 | (cases Option.some.inj (hc1.symm.trans hy1); first | exact hc2 hy2 | exact hy2 hc2))
    · exact False.elim (by first | omega | (rw [hc1] at hy1; cases hy1; done) | exact hc1 hy1 | exact hy1 hc1 | (cases Option.some.inj (hc1.symm.trans hy1); first | exact hc2 hy2 | exact hy2 hc2))
    · exact False.elim (by first | omega | (rw [hc1] at hy1; cases hy1; done) | exact hc1 hy1 | exact hy1 hc1 | (cases Option.some.inj (hc1.symm.trans hy1); first | exact hc2 hy2 | exact hy2 hc2))
  · have hI1 := lwI_s (n := n) h_z hn
    rw [show zsS (zM w f j) n = zM (zsS w n) f j from rfl]
    have hs := hI1.1.2.2.2.2.1
    have hO := hI1.1.2.2.2.1
    refine r_istore5 dL_law_1882 rfl ?_
    refine r_aloadR2 dL_law_1884 ?_
    refine r_aloadR0 dL_law_1885 ?_
    refine r_iload4 dL_law_1886 ?_
    refine n_iconst dL_law_1888 (by decide) (fun r1888 e1888 => ?_)
    refine n_iadd dL_law_1889 (by omega) (fun r1889 e1889 => ?_)
    refine k_iald (k := i + 1) (v := .int (xs (i + 1))) hT_z (by omega) (by omega) (by omega) rfl dL_law_1890 ?_
    refine q_callV1 zm_RL_257 dL_law_1891 (shM_k hs) (by decide) rfl (by decide) (by first | exact Nat.le_of_ble_eq_true rfl | omega | (dsimp only; omega)) (by first | exact Nat.le_of_ble_eq_true rfl | omega | (dsimp only; omega)) (by first | exact Nat.le_of_ble_eq_true rfl | omega | (dsimp only; omega)) (by first | exact Nat.le_of_ble_eq_true rfl | omega | (dsimp only; omega)) (s_X12_made G hs hI1.2.1 hw hI1.2.2.2.2.1 (by have h9 := hI1.2.2.2.2.2.1; omega) hI1.2.2.1 (fun hy0 r6 f2_z j2 o6 t6 => ?_) (fun hy0 hy1 r6 f2_z j2 o6 t6 => ?_) (fun hy0 s9 l9 hy1 hy2 r6 f2_z j2 o6 t6 => ?_) (fun hy0 s9 l9 hy1 hy2 r6 f2_z j2 e6_z o6 t6 => ?_))
    · exact False.elim (by first | omega | (rw [hc1] at hy1; cases hy1; done) | exact hc1 hy1 | exact hy1 hc1 | (cases Option.some.inj (hc1.symm.trans hy1); first | exact hc2 hy2 | exact hy2 hc2))
    · have hI2 := lwI_mq hI1 o6
      refine r_istore6 dL_law_1894 rfl ?_
      refine r_aloadR2 dL_law_1896 ?_
      refine q_callV0 zm_RL_151 dL_law_1897 (shM_k hs) (by decide) rfl (by first | exact Nat.le_of_ble_eq_true rfl | omega | (dsimp only; omega)) (by first | exact Nat.le_of_ble_eq_true rfl | omega | (dsimp only; omega)) (by first | exact Nat.le_of_ble_eq_true rfl | omega | (dsimp only; omega)) (by first | exact Nat.le_of_ble_eq_true rfl | omega | (dsimp only; omega)) (by first | exact Nat.le_of_ble_eq_true rfl | omega | (dsimp only; omega)) (s_X12_thrown G hs (fun r7 e7_z => ?_))
      have e7i : r7.toInt = (f2_z (X + 239) 4).toInt := by rw [e7_z]
      refine r_iload5 dL_law_1900 ?_
      refine t_iceq (t := 1907) dL_law_1902 (by decide) (fun h1902 => ?_) (fun h1902 => False.elim (by omega))
      refine r_iload5 dL_law_1907 ?_
      refine t_ifne (t := 1924) dL_law_1909 (by decide) (fun h1909 => ?_) (fun h1909 => False.elim (by omega))
      refine r_goto (t := 2729) dL_law_1924 (by decide) ?_
      refine kk _ _ _ _ _ _ _ ?_ ?_ (lwI_m hI2 (by omega))
      · first | omega | (dsimp only; omega)
      · first | omega | (dsimp only; omega)
    · exact False.elim (by first | omega | (rw [hc1] at hy1; cases hy1; done) | exact hc1 hy1 | exact hy1 hc1 | (cases Option.some.inj (hc1.symm.trans hy1); first | exact hc2 hy2 | exact hy2 hc2))
    · exact False.elim (by first | omega | (rw [hc1] at hy1; cases hy1; done) | exact hc1 hy1 | exact hy1 hc1 | (cases Option.some.inj (hc1.symm.trans hy1); first | exact hc2 hy2 | exact hy2 hc2))
  · have hI1 := lwI_s (n := n) h_z hn
    rw [show zsS (zM w f j) n = zM (zsS w n) f j from rfl]
    have hs := hI1.1.2.2.2.2.1
    have hO := hI1.1.2.2.2.1
    refine r_istore5 dL_law_1882 rfl ?_
    refine r_aloadR2 dL_law_1884 ?_
    refine r_aloadR0 dL_law_1885 ?_
    refine r_iload4 dL_law_1886 ?_
    refine n_iconst dL_law_1888 (by decide) (fun r1888 e1888 => ?_)
    refine n_iadd dL_law_1889 (by omega) (fun r1889 e1889 => ?_)
    refine k_iald (k := i + 1) (v := .int (xs (i + 1))) hT_z (by omega) (by omega) (by omega) rfl dL_law_1890 ?_
    refine q_callV1 zm_RL_257 dL_law_1891 (shM_k hs) (by decide) rfl (by decide) (by first | exact Nat.le_of_ble_eq_true rfl | omega | (dsimp only; omega)) (by first | exact Nat.le_of_ble_eq_true rfl | omega | (dsimp only; omega)) (by first | exact Nat.le_of_ble_eq_true rfl | omega | (dsimp only; omega)) (by first | exact Nat.le_of_ble_eq_true rfl | omega | (dsimp only; omega)) (s_X12_made G hs hI1.2.1 hw hI1.2.2.2.2.1 (by have h9 := hI1.2.2.2.2.2.1; omega) hI1.2.2.1 (fun hy0 r6 f2_z j2 o6 t6 => ?_) (fun hy0 hy1 r6 f2_z j2 o6 t6 => ?_) (fun hy0 s9 l9 hy1 hy2 r6 f2_z j2 o6 t6 => ?_) (fun hy0 s9 l9 hy1 hy2 r6 f2_z j2 e6_z o6 t6 => ?_))
    · exact False.elim (by first | omega | (rw [hc1] at hy1; cases hy1; done) | exact hc1 hy1 | exact hy1 hc1 | (cases Option.some.inj (hc1.symm.trans hy1); first | exact hc2 hy2 | exact hy2 hc2))
    · exact False.elim (by first | omega | (rw [hc1] at hy1; cases hy1; done) | exact hc1 hy1 | exact hy1 hc1 | (cases Option.some.inj (hc1.symm.trans hy1); first | exact hc2 hy2 | exact hy2 hc2))
    · cases Option.some.inj (hc1.symm.trans hy1)
      have hI2 := lwI_mq hI1 o6
      refine r_istore6 dL_law_1894 rfl ?_
      refine r_aloadR2 dL_law_1896 ?_
      refine q_callV0 zm_RL_151 dL_law_1897 (shM_k hs) (by decide) rfl (by first | exact Nat.le_of_ble_eq_true rfl | omega | (dsimp only; omega)) (by first | exact Nat.le_of_ble_eq_true rfl | omega | (dsimp only; omega)) (by first | exact Nat.le_of_ble_eq_true rfl | omega | (dsimp only; omega)) (by first | exact Nat.le_of_ble_eq_true rfl | omega | (dsimp only; omega)) (by first | exact Nat.le_of_ble_eq_true rfl | omega | (dsimp only; omega)) (s_X12_thrown G hs (fun r7 e7_z => ?_))
      have e7i : r7.toInt = (f2_z (X + 239) 4).toInt := by rw [e7_z]
      refine r_iload5 dL_law_1900 ?_
      refine t_iceq (t := 1907) dL_law_1902 (by decide) (fun h1902 => ?_) (fun h1902 => False.elim (by omega))
      refine r_iload5 dL_law_1907 ?_
      refine t_ifne (t := 1924) dL_law_1909 (by decide) (fun h1909 => ?_) (fun h1909 => False.elim (by omega))
      refine r_goto (t := 2729) dL_law_1924 (by decide) ?_
      refine kk _ _ _ _ _ _ _ ?_ ?_ (lwI_m hI2 (by omega))
      · first | omega | (dsimp only; omega)
      · first | omega | (dsimp only; omega)
    · exact False.elim (by first | omega | (rw [hc1] at hy1; cases hy1; done) | exact hc1 hy1 | exact hy1 hc1 | (cases Option.some.inj (hc1.symm.trans hy1); first | exact hc2 hy2 | exact hy2 hc2))
  · have hI1 := lwI_o (y := y1) (lwI_cq h_z hq)
    have hs := hI1.1.2.2.2.2.1
    have hj1 : zu j (X + 260) 0 y1 (X + 260) 0 = y1 := zu_at
    obtain ⟨j1, hj⟩ : ∃ j9, j9 = zu j (X + 260) 0 y1 := ⟨_, rfl⟩
    rw [← hj] at hI1 hj1 ⊢
    refine r_istore5 dL_law_1882 rfl ?_
    refine r_aloadR2 dL_law_1884 ?_
    refine r_aloadR0 dL_law_1885 ?_
    refine r_iload4 dL_law_1886 ?_
    refine n_iconst dL_law_1888 (by decide) (fun r1888 e1888 => ?_)
    refine n_iadd dL_law_1889 (by omega) (fun r1889 e1889 => ?_)
    refine k_iald (k := i + 1) (v := .int (xs (i + 1))) hT_z (by omega) (by omega) (by omega) rfl dL_law_1890 ?_
    refine q_callV1 zm_RL_257 dL_law_1891 (shM_k hs) (by decide) rfl (by decide) (by first | exact Nat.le_of_ble_eq_true rfl | omega | (dsimp only; omega)) (by first | exact Nat.le_of_ble_eq_true rfl | omega | (dsimp only; omega)) (by first | exact Nat.le_of_ble_eq_true rfl | omega | (dsimp only; omega)) (by first | exact Nat.le_of_ble_eq_true rfl | omega | (dsimp only; omega)) (s_X12_made G hs hI1.2.1 hw hI1.2.2.2.2.1 (by have h9 := hI1.2.2.2.2.2.1; omega) hI1.2.2.1 (fun hy0 r6 f2_z j2 o6 t6 => ?_) (fun hy0 hy1 r6 f2_z j2 o6 t6 => ?_) (fun hy0 s9 l9 hy1 hy2 r6 f2_z j2 o6 t6 => ?_) (fun hy0 s9 l9 hy1 hy2 r6 f2_z j2 e6_z o6 t6 => ?_))
    · exact False.elim (by first | omega | (rw [hc1] at hy1; cases hy1; done) | exact hc1 hy1 | exact hy1 hc1 | (cases Option.some.inj (hc1.symm.trans hy1); first | exact hc2 hy2 | exact hy2 hc2))
    · exact False.elim (by first | omega | (rw [hc1] at hy1; cases hy1; done) | exact hc1 hy1 | exact hy1 hc1 | (cases Option.some.inj (hc1.symm.trans hy1); first | exact hc2 hy2 | exact hy2 hc2))
    · exact False.elim (by first | omega | (rw [hc1] at hy1; cases hy1; done) | exact hc1 hy1 | exact hy1 hc1 | (cases Option.some.inj (hc1.symm.trans hy1); first | exact hc2 hy2 | exact hy2 hc2))
    · cases Option.some.inj (hc1.symm.trans hy1)
      have hI2 := lwI_mq hI1 o6
      have hl2 : (j2 (X + 260) 0).toInt = y1.toInt := by rw [o6.2.1 (X + 260) (by omega), hj1]
      have he9 : rc.toInt = r6.toInt := by rw [ec, e6_z]; exact congrArg (fun (k : Nat) => (k : Int)) eq_sum
      refine r_istore6 dL_law_1894 rfl ?_
      refine r_aloadR2 dL_law_1896 ?_
      refine q_callV0 zm_RL_151 dL_law_1897 (shM_k hs) (by decide) rfl (by first | exact Nat.le_of_ble_eq_true rfl | omega | (dsimp only; omega)) (by first | exact Nat.le_of_ble_eq_true rfl | omega | (dsimp only; omega)) (by first | exact Nat.le_of_ble_eq_true rfl | omega | (dsimp only; omega)) (by first | exact Nat.le_of_ble_eq_true rfl | omega | (dsimp only; omega)) (by first | exact Nat.le_of_ble_eq_true rfl | omega | (dsimp only; omega)) (s_X12_thrown G hs (fun r7 e7_z => ?_))
      have e7i : r7.toInt = (f2_z (X + 239) 4).toInt := by rw [e7_z]
      refine r_iload5 dL_law_1900 ?_
      refine t_iceq (t := 1907) dL_law_1902 (by decide) (fun h1902 => ?_) (fun h1902 => False.elim (by omega))
      refine r_iload5 dL_law_1907 ?_
      refine t_ifne (t := 1924) dL_law_1909 (by decide) (fun h1909 => False.elim (by omega)) (fun h1909 => ?_)
      refine r_aloadR3 dL_law_1912 ?_
      refine n_iconst dL_law_1913 (by decide) (fun r1913 e1913 => ?_)
      refine m_lald (k := 0) (x := (j2 (X + 260) 0)) dL_law_1914 hO.1 hO.2 (by omega) (by omega) (rfl) ?_
      refine r_iload6 dL_law_1915 ?_
      refine n_i2l dL_law_1917 (fun r1917 e1917 => ?_)
      refine n_lcmp dL_law_1918 (fun r1918 e1918 => ?_)
      unfold zcmp at e1918
      refine t_ifeq (t := 1924) dL_law_1919 (by decide) (fun h1919 => ?_) (fun h1919 => False.elim (by omega))
      refine r_goto (t := 2729) dL_law_1924 (by decide) ?_
      refine kk _ _ _ _ _ _ _ ?_ ?_ (lwI_m hI2 (by omega))
      · first | omega | (dsimp only; omega)
      · first | omega | (dsimp only; omega)
set_option maxHeartbeats 4000000 in
set_option maxRecDepth 100000 in
theorem lc_39 {g : zGT} {Rm : Room} {QQ : List Frame → Array Value → State → State → Prop} {hh : List (Nat × Nat × Nat × Nat)} {nm : String} {w : zW} {f : Nat → Nat → Int32} {j : Nat → Nat → Int64} {s X L i N : Nat} {xs : Nat → Int32} {T : zTb} {ty : Nat → zTy} {im : Nat → Option zTb} {p : Nat} {B : Nat → Nat} {th pl : Int} {iv : Int32} {u5 u6 u7 : Option Value} {b : Nat × Nat} (G : zGok g) (hfr : 2048 ≤ Rm.frames) (hlo : 84000 ≤ Rm.locals) (hb1 : b.1 + 951 ≤ Rm.cells) (hb2 : b.2 + 1006 ≤ Rm.slots) (hT_z : ∀ U, g.2.2.2 U → va_T .int s L (fun k => .int (xs k)) (zA g.2.2.1) U U.heap) (hi_z : iv.toInt = (i : Nat)) (hiL : i + 6 ≤ L) (hL : L ≤ 3072) (h_z : lwI w f j X T ty im p B th pl N) (hN_z : N < 1900000000)  (kk : ∀ (u5 u6 u7 : Option Value) w2 f2_z j2 b2, b2.1 ≤ b.1 + 951 → b2.2 ≤ b.2 + 1006 → lwI w2 f2_z j2 X T ty im p B th pl (N + 4) → zR (zVg g Rm QQ hh nm 8 (some .boolean)) cL_law RL 2729 [some (.ref s), some (.ref X), some (.ref (X + 239)), some (.ref (X + 260)), some (.int iv), u5, u6, u7] [] (zM w2 f2_z j2) b2) : zR (zVg g Rm QQ hh nm 8 (some .boolean)) cL_law RL 2201 [some (.ref s), some (.ref X), some (.ref (X + 239)), some (.ref (X + 260)), some (.int iv), u5, u6, u7] [] (zM w f j) b := by
  have hx := h_z.1.1
  have hX := shX_k hx
  have hO := h_z.1.2.2.2.1
  have hs := h_z.1.2.2.2.2.1
  have ht := h_z.1.2.2.2.2.2.1
  have hw := tb_wf ht
  have hS2 := h_z.1.2.1
  have hz := h_z.1.2.2.1
  refine r_aloadR1 dL_law_2201 ?_
  refine r_aloadR0 dL_law_2202 ?_
  refine r_iload4 dL_law_2203 ?_
  refine n_iconst dL_law_2205 (by decide) (fun r2205 e2205 => ?_)
  refine n_iadd dL_law_2206 (by omega) (fun r2206 e2206 => ?_)
  refine k_iald (k := i + 1) (v := .int (xs (i + 1))) hT_z (by omega) (by omega) (by omega) rfl dL_law_2207 ?_
  refine r_aloadR0 dL_law_2208 ?_
  refine r_iload4 dL_law_2209 ?_
  refine n_iconst dL_law_2211 (by decide) (fun r2211 e2211 => ?_)
  refine n_iadd dL_law_2212 (by omega) (fun r2212 e2212 => ?_)
  refine k_iald (k := i + 2) (v := .int (xs (i + 2))) hT_z (by omega) (by omega) (by omega) rfl dL_law_2213 ?_
  refine r_aloadR3 dL_law_2214 ?_
  refine q_callW (As := [.ref X, .int (xs (i + 1)), .int (xs (i + 2)), .ref (X + 260)]) (rest := []) zw_seen dL_law_2215 rfl rfl (by decide) (by first | exact Nat.le_of_ble_eq_true rfl | omega | (dsimp only; omega)) (by first | exact Nat.le_of_ble_eq_true rfl | omega | (dsimp only; omega)) (by first | exact Nat.le_of_ble_eq_true rfl | omega | (dsimp only; omega)) (by first | exact Nat.le_of_ble_eq_true rfl | omega | (dsimp only; omega)) (w_seen G hX (s_X11_seen G hx ht h_z.1.2.2.2.2.2.2.2.2.1 h_z.1.2.2.2.2.2.2.2.1  (fun hc0 n hn => Or.inl ⟨rfl, fun k1_z ek => ?_⟩) (fun hc0 hc1 n hn => Or.inr (Or.inl ⟨rfl, fun k1_z ek => ?_⟩)) (fun hc0 s l hc1 hc2 n hn => Or.inr (Or.inr (⟨rfl, fun k1_z ek => ?_⟩))) (fun hc0 s l hc1 hc2 rc f1_z ec hq => ⟨rc, w, f1_z, j, rfl, rfl, hO.1, hO.2, fun k1_z y1 ek ey => ?_⟩)))
  · have hI1 := lwI_s (n := n) h_z hn
    rw [show zsS (zM w f j) n = zM (zsS w n) f j from rfl]
    have hs := hI1.1.2.2.2.2.1
    have hO := hI1.1.2.2.2.1
    refine r_istore5 dL_law_2218 rfl ?_
    refine r_aloadR2 dL_law_2220 ?_
    refine r_aloadR0 dL_law_2221 ?_
    refine r_iload4 dL_law_2222 ?_
    refine n_iconst dL_law_2224 (by decide) (fun r2224 e2224 => ?_)
    refine n_iadd dL_law_2225 (by omega) (fun r2225 e2225 => ?_)
    refine k_iald (k := i + 1) (v := .int (xs (i + 1))) hT_z (by omega) (by omega) (by omega) rfl dL_law_2226 ?_
    refine r_aloadR0 dL_law_2227 ?_
    refine r_iload4 dL_law_2228 ?_
    refine n_iconst dL_law_2230 (by decide) (fun r2230 e2230 => ?_)
    refine n_iadd dL_law_2231 (by omega) (fun r2231 e2231 => ?_)
    refine k_iald (k := i + 2) (v := .int (xs (i + 2))) hT_z (by omega) (by omega) (by omega) rfl dL_law_2232 ?_
    refine q_callV2 zm_RL_280 dL_law_2233 (shM_k hs) (by decide) rfl (by decide) (by first | exact Nat.le_of_ble_eq_true rfl | omega | (dsimp only; omega)) (by first | exact Nat.le_of_ble_eq_true rfl | omega | (dsimp only; omega)) (by first | exact Nat.le_of_ble_eq_true rfl | omega | (dsimp only; omega)) (by first | exact Nat.le_of_ble_eq_true rfl | omega | (dsimp only; omega)) (s_X12_seen G hs hI1.2.1 hw hI1.2.2.2.2.1 (by have h9 := hI1.2.2.2.2.2.1; omega) hI1.2.2.1 (fun hy0 r6 f2_z j2 o6 t6 => ?_) (fun hy0 hy1 r6 f2_z j2 o6 t6 => ?_) (fun hy0 s9 l9 hy1 hy2 r6 f2_z j2 o6 t6 => ?_) (fun hy0 s9 l9 hy1 hy2 r6 f2_z j2 e6_z o6 t6 => ?_))
    · have hI2 := lwI_mq hI1 o6
      refine r_istore6 dL_law_2236 rfl ?_
      refine r_aloadR2 dL_law_2238 ?_
      refine q_callV0 zm_RL_151 dL_law_2239 (shM_k hs) (by decide) rfl (by first | exact Nat.le_of_ble_eq_true rfl | omega | (dsimp only; omega)) (by first | exact Nat.le_of_ble_eq_true rfl | omega | (dsimp only; omega)) (by first | exact Nat.le_of_ble_eq_true rfl | omega | (dsimp only; omega)) (by first | exact Nat.le_of_ble_eq_true rfl | omega | (dsimp only; omega)) (by first | exact Nat.le_of_ble_eq_true rfl | omega | (dsimp only; omega)) (s_X12_thrown G hs (fun r7 e7_z => ?_))
      have e7i : r7.toInt = (f2_z (X + 239) 4).toInt := by rw [e7_z]
      refine r_iload5 dL_law_2242 ?_
      refine t_iceq (t := 2249) dL_law_2244 (by decide) (fun h2244 => ?_) (fun h2244 => False.elim (by omega))
      refine r_iload5 dL_law_2249 ?_
      refine t_ifne (t := 2266) dL_law_2251 (by decide) (fun h2251 => ?_) (fun h2251 => False.elim (by omega))
      refine r_goto (t := 2729) dL_law_2266 (by decide) ?_
      refine kk _ _ _ _ _ _ _ ?_ ?_ (lwI_m hI2 (by omega))
      · first | omega | (dsimp only; omega)
      · first | omega | (dsimp only; omega)
    · exact False.elim (by first | omega | (rw [hc1] at hy1; cases hy1; done) | exact hc1 hy1 | exact hy1 hc1 | (cases Option.some.inj (hc1.symm.trans hy1); first | exact hc2 hy2 | exact hy2 hc2))
    · exact False.elim (by first | omega | (rw [hc1] at hy1; cases hy1; done) | exact hc1 hy1 | exact hy1 hc1 | (cases Option.some.inj (hc1.symm.trans hy1); first | exact hc2 hy2 | exact hy2 hc2))
    · exact False.elim (by first | omega | (rw [hc1] at hy1; cases hy1; done) | exact hc1 hy1 | exact hy1 hc1 | (cases Option.some.inj (hc1.symm.trans hy1); first | exact hc2 hy2 | exact hy2 hc2))
  · have hI1 := lwI_s (n := n) h_z hn
    rw [show zsS (zM w f j) n = zM (zsS w n) f j from rfl]
    have hs := hI1.1.2.2.2.2.1
    have hO := hI1.1.2.2.2.1
    refine r_istore5 dL_law_2218 rfl ?_
    refine r_aloadR2 dL_law_2220 ?_
    refine r_aloadR0 dL_law_2221 ?_
    refine r_iload4 dL_law_2222 ?_
    refine n_iconst dL_law_2224 (by decide) (fun r2224 e2224 => ?_)
    refine n_iadd dL_law_2225 (by omega) (fun r2225 e2225 => ?_)
    refine k_iald (k := i + 1) (v := .int (xs (i + 1))) hT_z (by omega) (by omega) (by omega) rfl dL_law_2226 ?_
    refine r_aloadR0 dL_law_2227 ?_
    refine r_iload4 dL_law_2228 ?_
    refine n_iconst dL_law_2230 (by decide) (fun r2230 e2230 => ?_)
    refine n_iadd dL_law_2231 (by omega) (fun r2231 e2231 => ?_)
    refine k_iald (k := i + 2) (v := .int (xs (i + 2))) hT_z (by omega) (by omega) (by omega) rfl dL_law_2232 ?_
    refine q_callV2 zm_RL_280 dL_law_2233 (shM_k hs) (by decide) rfl (by decide) (by first | exact Nat.le_of_ble_eq_true rfl | omega | (dsimp only; omega)) (by first | exact Nat.le_of_ble_eq_true rfl | omega | (dsimp only; omega)) (by first | exact Nat.le_of_ble_eq_true rfl | omega | (dsimp only; omega)) (by first | exact Nat.le_of_ble_eq_true rfl | omega | (dsimp only; omega)) (s_X12_seen G hs hI1.2.1 hw hI1.2.2.2.2.1 (by have h9 := hI1.2.2.2.2.2.1; omega) hI1.2.2.1 (fun hy0 r6 f2_z j2 o6 t6 => ?_) (fun hy0 hy1 r6 f2_z j2 o6 t6 => ?_) (fun hy0 s9 l9 hy1 hy2 r6 f2_z j2 o6 t6 => ?_) (fun hy0 s9 l9 hy1 hy2 r6 f2_z j2 e6_z o6 t6 => ?_))
    · exact False.elim (by first | omega | (rw [hc1] at hy1; cases hy1; done) | exact hc1 hy1 | exact hy1 hc1 | (cases Option.some.inj (hc1.symm.trans hy1); first | exact hc2 hy2 | exact hy2 hc2))
    · have hI2 := lwI_mq hI1 o6
      refine r_istore6 dL_law_2236 rfl ?_
      refine r_aloadR2 dL_law_2238 ?_
      refine q_callV0 zm_RL_151 dL_law_2239 (shM_k hs) (by decide) rfl (by first | exact Nat.le_of_ble_eq_true rfl | omega | (dsimp only; omega)) (by first | exact Nat.le_of_ble_eq_true rfl | omega | (dsimp only; omega)) (by first | exact Nat.le_of_ble_eq_true rfl | omega | (dsimp only; omega)) (by first | exact Nat.le_of_ble_eq_true rfl | omega | (dsimp only; omega)) (by first | exact Nat.le_of_ble_eq_true rfl | omega | (dsimp only; omega)) (s_X12_thrown G hs (fun r7 e7_z => ?_))
      have e7i : r7.toInt = (f2_z (X + 239) 4).toInt := by rw [e7_z]
      refine r_iload5 dL_law_2242 ?_
      refine t_iceq (t := 2249) dL_law_2244 (by decide) (fun h2244 => ?_) (fun h2244 => False.elim (by omega))
      refine r_iload5 dL_law_2249 ?_
      refine t_ifne (t := 2266) dL_law_2251 (by decide) (fun h2251 => ?_) (fun h2251 => False.elim (by omega))
      refine r_goto (t := 2729) dL_law_2266 (by decide) ?_
      refine kk _ _ _ _ _ _ _ ?_ ?_ (lwI_m hI2 (by omega))
      · first | omega | (dsimp only; omega)
      · first | omega | (dsimp only; omega)
    · exact False.elim (by first | omega | (rw [hc1] at hy1; cases hy1; done) | exact hc1 hy1 | exact hy1 hc1 | (cases Option.some.inj (hc1.symm.trans hy1); first | exact hc2 hy2 | exact hy2 hc2))
    · exact False.elim (by first | omega | (rw [hc1] at hy1; cases hy1; done) | exact hc1 hy1 | exact hy1 hc1 | (cases Option.some.inj (hc1.symm.trans hy1); first | exact hc2 hy2 | exact hy2 hc2))
  · have hI1 := lwI_s (n := n) h_z hn
    rw [show zsS (zM w f j) n = zM (zsS w n) f j from rfl]
    have hs := hI1.1.2.2.2.2.1
    have hO := hI1.1.2.2.2.1
    refine r_istore5 dL_law_2218 rfl ?_
    refine r_aloadR2 dL_law_2220 ?_
    refine r_aloadR0 dL_law_2221 ?_
    refine r_iload4 dL_law_2222 ?_
    refine n_iconst dL_law_2224 (by decide) (fun r2224 e2224 => ?_)
    refine n_iadd dL_law_2225 (by omega) (fun r2225 e2225 => ?_)
    refine k_iald (k := i + 1) (v := .int (xs (i + 1))) hT_z (by omega) (by omega) (by omega) rfl dL_law_2226 ?_
    refine r_aloadR0 dL_law_2227 ?_
    refine r_iload4 dL_law_2228 ?_
    refine n_iconst dL_law_2230 (by decide) (fun r2230 e2230 => ?_)
    refine n_iadd dL_law_2231 (by omega) (fun r2231 e2231 => ?_)
    refine k_iald (k := i + 2) (v := .int (xs (i + 2))) hT_z (by omega) (by omega) (by omega) rfl dL_law_2232 ?_
    refine q_callV2 zm_RL_280 dL_law_2233 (shM_k hs) (by decide) rfl (by decide) (by first | exact Nat.le_of_ble_eq_true rfl | omega | (dsimp only; omega)) (by first | exact Nat.le_of_ble_eq_true rfl | omega | (dsimp only; omega)) (by first | exact Nat.le_of_ble_eq_true rfl | omega | (dsimp only; omega)) (by first | exact Nat.le_of_ble_eq_true rfl | omega | (dsimp only; omega)) (s_X12_seen G hs hI1.2.1 hw hI1.2.2.2.2.1 (by have h9 := hI1.2.2.2.2.2.1; omega) hI1.2.2.1 (fun hy0 r6 f2_z j2 o6 t6 => ?_) (fun hy0 hy1 r6 f2_z j2 o6 t6 => ?_) (fun hy0 s9 l9 hy1 hy2 r6 f2_z j2 o6 t6 => ?_) (fun hy0 s9 l9 hy1 hy2 r6 f2_z j2 e6_z o6 t6 => ?_))
    · exact False.elim (by first | omega | (rw [hc1] at hy1; cases hy1; done) | exact hc1 hy1 | exact hy1 hc1 | (cases Option.some.inj (hc1.symm.trans hy1); first | exact hc2 hy2 | exact hy2 hc2))
    · exact False.elim (by first | omega | (rw [hc1] at hy1; cases hy1; done) | exact hc1 hy1 | exact hy1 hc1 | (cases Option.some.inj (hc1.symm.trans hy1); first | exact hc2 hy2 | exact hy2 hc2))
    · cases Option.some.inj (hc1.symm.trans hy1)
      have hI2 := lwI_mq hI1 o6
      refine r_istore6 dL_law_2236 rfl ?_
      refine r_aloadR2 dL_law_2238 ?_
      refine q_callV0 zm_RL_151 dL_law_2239 (shM_k hs) (by decide) rfl (by first | exact Nat.le_of_ble_eq_true rfl | omega | (dsimp only; omega)) (by first | exact Nat.le_of_ble_eq_true rfl | omega | (dsimp only; omega)) (by first | exact Nat.le_of_ble_eq_true rfl | omega | (dsimp only; omega)) (by first | exact Nat.le_of_ble_eq_true rfl | omega | (dsimp only; omega)) (by first | exact Nat.le_of_ble_eq_true rfl | omega | (dsimp only; omega)) (s_X12_thrown G hs (fun r7 e7_z => ?_))
      have e7i : r7.toInt = (f2_z (X + 239) 4).toInt := by rw [e7_z]
      refine r_iload5 dL_law_2242 ?_
      refine t_iceq (t := 2249) dL_law_2244 (by decide) (fun h2244 => ?_) (fun h2244 => False.elim (by omega))
      refine r_iload5 dL_law_2249 ?_
      refine t_ifne (t := 2266) dL_law_2251 (by decide) (fun h2251 => ?_) (fun h2251 => False.elim (by omega))
      refine r_goto (t := 2729) dL_law_2266 (by decide) ?_
      refine kk _ _ _ _ _ _ _ ?_ ?_ (lwI_m hI2 (by omega))
      · first | omega | (dsimp only; omega)
      · first | omega | (dsimp only; omega)
    · exact False.elim (by first | omega | (rw [hc1] at hy1; cases hy1; done) | exact hc1 hy1 | exact hy1 hc1 | (cases Option.some.inj (hc1.symm.trans hy1); first | exact hc2 hy2 | exact hy2 hc2))
  · have hI1 := lwI_o (y := y1) (lwI_cq h_z hq)
    have hs := hI1.1.2.2.2.2.1
    have hj1 : zu j (X + 260) 0 y1 (X + 260) 0 = y1 := zu_at
    obtain ⟨j1, hj⟩ : ∃ j9, j9 = zu j (X + 260) 0 y1 := ⟨_, rfl⟩
    rw [← hj] at hI1 hj1 ⊢
    refine r_istore5 dL_law_2218 rfl ?_
    refine r_aloadR2 dL_law_2220 ?_
    refine r_aloadR0 dL_law_2221 ?_
    refine r_iload4 dL_law_2222 ?_
    refine n_iconst dL_law_2224 (by decide) (fun r2224 e2224 => ?_)
    refine n_iadd dL_law_2225 (by omega) (fun r2225 e2225 => ?_)
    refine k_iald (k := i + 1) (v := .int (xs (i + 1))) hT_z (by omega) (by omega) (by omega) rfl dL_law_2226 ?_
    refine r_aloadR0 dL_law_2227 ?_
    refine r_iload4 dL_law_2228 ?_
    refine n_iconst dL_law_2230 (by decide) (fun r2230 e2230 => ?_)
    refine n_iadd dL_law_2231 (by omega) (fun r2231 e2231 => ?_)
    refine k_iald (k := i + 2) (v := .int (xs (i + 2))) hT_z (by omega) (by omega) (by omega) rfl dL_law_2232 ?_
    refine q_callV2 zm_RL_280 dL_law_2233 (shM_k hs) (by decide) rfl (by decide) (by first | exact Nat.le_of_ble_eq_true rfl | omega | (dsimp only; omega)) (by first | exact Nat.le_of_ble_eq_true rfl | omega | (dsimp only; omega)) (by first | exact Nat.le_of_ble_eq_true rfl | omega | (dsimp only; omega)) (by first | exact Nat.le_of_ble_eq_true rfl | omega | (dsimp only; omega)) (s_X12_seen G hs hI1.2.1 hw hI1.2.2.2.2.1 (by have h9 := hI1.2.2.2.2.2.1; omega) hI1.2.2.1 (fun hy0 r6 f2_z j2 o6 t6 => ?_) (fun hy0 hy1 r6 f2_z j2 o6 t6 => ?_) (fun hy0 s9 l9 hy1 hy2 r6 f2_z j2 o6 t6 => ?_) (fun hy0 s9 l9 hy1 hy2 r6 f2_z j2 e6_z o6 t6 => ?_))
    · exact False.elim (by first | omega | (rw [hc1] at hy1; cases hy1; done) | exact hc1 hy1 | exact hy1 hc1 | (cases Option.some.inj (hc1.symm.trans hy1); first | exact hc2 hy2 | exact hy2 hc2))
    · exact False.elim (by first | omega | (rw [hc1] at hy1; cases hy1; done) | exact hc1 hy1 | exact hy1 hc1 | (cases Option.some.inj (hc1.symm.trans hy1); first | exact hc2 hy2 | exact hy2 hc2))
    · exact False.elim (by first | omega | (rw [hc1] at hy1; cases hy1; done) | exact hc1 hy1 | exact hy1 hc1 | (cases Option.some.inj (hc1.symm.trans hy1); first | exact hc2 hy2 | exact hy2 hc2))
    · cases Option.some.inj (hc1.symm.trans hy1)
      have hI2 := lwI_mq hI1 o6
      have hl2 : (j2 (X + 260) 0).toInt = y1.toInt := by rw [o6.2.1 (X + 260) (by omega), hj1]
      have he9 : rc.toInt = r6.toInt := by rw [ec, e6_z]; exact congrArg (fun (k : Nat) => (k : Int)) eq_sum
      refine r_istore6 dL_law_2236 rfl ?_
      refine r_aloadR2 dL_law_2238 ?_
      refine q_callV0 zm_RL_151 dL_law_2239 (shM_k hs) (by decide) rfl (by first | exact Nat.le_of_ble_eq_true rfl | omega | (dsimp only; omega)) (by first | exact Nat.le_of_ble_eq_true rfl | omega | (dsimp only; omega)) (by first | exact Nat.le_of_ble_eq_true rfl | omega | (dsimp only; omega)) (by first | exact Nat.le_of_ble_eq_true rfl | omega | (dsimp only; omega)) (by first | exact Nat.le_of_ble_eq_true rfl | omega | (dsimp only; omega)) (s_X12_thrown G hs (fun r7 e7_z => ?_))
      have e7i : r7.toInt = (f2_z (X + 239) 4).toInt := by rw [e7_z]
      refine r_iload5 dL_law_2242 ?_
      refine t_iceq (t := 2249) dL_law_2244 (by decide) (fun h2244 => ?_) (fun h2244 => False.elim (by omega))
      refine r_iload5 dL_law_2249 ?_
      refine t_ifne (t := 2266) dL_law_2251 (by decide) (fun h2251 => False.elim (by omega)) (fun h2251 => ?_)
      refine r_aloadR3 dL_law_2254 ?_
      refine n_iconst dL_law_2255 (by decide) (fun r2255 e2255 => ?_)
      refine m_lald (k := 0) (x := (j2 (X + 260) 0)) dL_law_2256 hO.1 hO.2 (by omega) (by omega) (rfl) ?_
      refine r_iload6 dL_law_2257 ?_
      refine n_i2l dL_law_2259 (fun r2259 e2259 => ?_)
      refine n_lcmp dL_law_2260 (fun r2260 e2260 => ?_)
      unfold zcmp at e2260
      refine t_ifeq (t := 2266) dL_law_2261 (by decide) (fun h2261 => ?_) (fun h2261 => False.elim (by omega))
      refine r_goto (t := 2729) dL_law_2266 (by decide) ?_
      refine kk _ _ _ _ _ _ _ ?_ ?_ (lwI_m hI2 (by omega))
      · first | omega | (dsimp only; omega)
      · first | omega | (dsimp only; omega)
