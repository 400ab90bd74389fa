/-! the law: the cases, eighth part: deeds -/
set_option maxHeartbeats 4000000 in
set_option maxRecDepth 100000 in
theorem lc_14 {g : zGT} {Rm : Room} {QQ : List Frame → Array Value → State → State → Prop} {hh : List (Nat × Nat × Nat × Nat)} {nm : String} {w : zW} {f : Nat → Nat → Int32} {j : Nat → Nat → Int64} {s X L i N : Nat} {xs : Nat → Int32} {T : zTb} {ty : Nat → zTy} {im : Nat → Option zTb} {p : Nat} {B : Nat → Nat} {th pl : Int} {iv : Int32} {u5 u6 u7 : Option Value} {b : Nat × Nat} (G : zGok g) (hfr : 2048 ≤ Rm.frames) (hlo : 84000 ≤ Rm.locals) (hb1 : b.1 + 951 ≤ Rm.cells) (hb2 : b.2 + 1006 ≤ Rm.slots) (hT_z : ∀ U, g.2.2.2 U → va_T .int s L (fun k => .int (xs k)) (zA g.2.2.1) U U.heap) (hi_z : iv.toInt = (i : Nat)) (hiL : i + 6 ≤ L) (hL : L ≤ 3072) (h_z : lwI w f j X T ty im p B th pl N) (hN_z : N < 1900000000)  (kk : ∀ (T9 : zTb) (u5 u6 u7 : Option Value) w2 f2_z j2 b2, b2.1 ≤ b.1 + 951 → b2.2 ≤ b.2 + 1006 → lwI w2 f2_z j2 X T9 ty im p B th pl (N + 1) → zR (zVg g Rm QQ hh nm 8 (some .boolean)) cL_law RL 2729 [some (.ref s), some (.ref X), some (.ref (X + 239)), some (.ref (X + 260)), some (.int iv), u5, u6, u7] [] (zM w2 f2_z j2) b2) : zR (zVg g Rm QQ hh nm 8 (some .boolean)) cL_law RL 937 [some (.ref s), some (.ref X), some (.ref (X + 239)), some (.ref (X + 260)), some (.int iv), u5, u6, u7] [] (zM w f j) b := by
  have hx := h_z.1.1
  have hX := shX_k hx
  have hO := h_z.1.2.2.2.1
  have hs := h_z.1.2.2.2.2.1
  have ht := h_z.1.2.2.2.2.2.1
  have hw := tb_wf ht
  have hS2 := h_z.1.2.1
  have hz := h_z.1.2.2.1
  refine r_aloadR1 dL_law_937 ?_
  refine r_aloadR3 dL_law_938 ?_
  refine q_callW (As := [.ref X, .ref (X + 260)]) (rest := []) zw_unfold dL_law_939 rfl rfl (by decide) (by first | exact Nat.le_of_ble_eq_true rfl | omega | (dsimp only; omega)) (by first | exact Nat.le_of_ble_eq_true rfl | omega | (dsimp only; omega)) (by first | exact Nat.le_of_ble_eq_true rfl | omega | (dsimp only; omega)) (by first | exact Nat.le_of_ble_eq_true rfl | omega | (dsimp only; omega)) (w_unfold G hX (s_X11_unfold G hx ht  (fun hc0 n hn => ⟨rfl, fun k1_z ek => ?_⟩) (fun hc0 rc P2 f1_z ec hq => ⟨rc, (zsP w P2), f1_z, j, rfl, rfl, hO.1, hO.2, fun k1_z y1 ek ey => ?_⟩)))
  · have hI1 := lwI_s (n := n) h_z hn
    rw [show zsS (zM w f j) n = zM (zsS w n) f j from rfl]
    have hs := hI1.1.2.2.2.2.1
    have hO := hI1.1.2.2.2.1
    refine r_istore5 dL_law_942 rfl ?_
    refine r_aloadR2 dL_law_944 ?_
    refine q_callV0 zm_RL_199 dL_law_945 (shM_k hs) (by decide) rfl (by decide) (by first | exact Nat.le_of_ble_eq_true rfl | omega | (dsimp only; omega)) (by first | exact Nat.le_of_ble_eq_true rfl | omega | (dsimp only; omega)) (by first | exact Nat.le_of_ble_eq_true rfl | omega | (dsimp only; omega)) (by first | exact Nat.le_of_ble_eq_true rfl | omega | (dsimp only; omega)) (s_X12_unfold G hs hI1.2.1 hw (fun hy0 r6 f2_z o6 t6 => ?_) (fun hy0 r6 f2_z e6_z o6 t6 k6_z => ?_))
    · have hI2 := lwI_mf hI1 (frM_su o6 (by decide) (by decide))
      refine r_istore6 dL_law_948 rfl ?_
      refine r_aloadR2 dL_law_950 ?_
      refine q_callV0 zm_RL_151 dL_law_951 (shM_k hs) (by decide) rfl (by first | exact Nat.le_of_ble_eq_true rfl | omega | (dsimp only; omega)) (by first | exact Nat.le_of_ble_eq_true rfl | omega | (dsimp only; omega)) (by first | exact Nat.le_of_ble_eq_true rfl | omega | (dsimp only; omega)) (by first | exact Nat.le_of_ble_eq_true rfl | omega | (dsimp only; omega)) (by first | exact Nat.le_of_ble_eq_true rfl | omega | (dsimp only; omega)) (s_X12_thrown G hs (fun r7 e7_z => ?_))
      have e7i : r7.toInt = (f2_z (X + 239) 4).toInt := by rw [e7_z]
      refine r_iload5 dL_law_954 ?_
      refine t_iceq (t := 961) dL_law_956 (by decide) (fun h956 => ?_) (fun h956 => False.elim (by omega))
      refine r_iload5 dL_law_961 ?_
      refine t_ifne (t := 978) dL_law_963 (by decide) (fun h963 => ?_) (fun h963 => False.elim (by omega))
      refine r_goto (t := 2729) dL_law_978 (by decide) ?_
      refine kk _ _ _ _ _ _ _ _ ?_ ?_ (lwI_m hI2 (by omega))
      · first | omega | (dsimp only; omega)
      · first | omega | (dsimp only; omega)
    · exact False.elim (by first | omega | (rw [hc1] at hy1; cases hy1; done) | exact hc1 hy1 | exact hy1 hc1 | (cases Option.some.inj (hc1.symm.trans hy1); first | exact hc2 hy2 | exact hy2 hc2))
  · have hC1 := lwC_st h_z.1 hq
    have hM1 := lwM_e (f2_z := f1_z) (j2 := j) h_z.2 (fun q h1 h2 => hq.2.1 q (by omega)) (fun _ _ _ => rfl)
    have hC2 := lwC_f (f2_z := f1_z) (j2 := zu j (X + 260) 0 y1) hC1 (fun _ _ => rfl) (fun e => e) (fun e => e) (fun q hq => zu_ne (by omega))
    have hM2 := lwM_e (f2_z := f1_z) (j2 := zu j (X + 260) 0 y1) hM1 (fun _ _ _ => rfl) (fun q _ h2 => zu_ne (by omega))
    have hs := hC2.2.2.2.2.1
    have hj1 : zu j (X + 260) 0 y1 (X + 260) 0 = y1 := zu_at
    obtain ⟨j1, hj⟩ : ∃ j9, j9 = zu j (X + 260) 0 y1 := ⟨_, rfl⟩
    rw [← hj] at hC2 hM2 hj1 ⊢
    have hI1 := And.intro trivial hM2
    refine r_istore5 dL_law_942 rfl ?_
    refine r_aloadR2 dL_law_944 ?_
    refine q_callV0 zm_RL_199 dL_law_945 (shM_k hs) (by decide) rfl (by decide) (by first | exact Nat.le_of_ble_eq_true rfl | omega | (dsimp only; omega)) (by first | exact Nat.le_of_ble_eq_true rfl | omega | (dsimp only; omega)) (by first | exact Nat.le_of_ble_eq_true rfl | omega | (dsimp only; omega)) (by first | exact Nat.le_of_ble_eq_true rfl | omega | (dsimp only; omega)) (s_X12_unfold G hs hI1.2.1 hw (fun hy0 r6 f2_z o6 t6 => ?_) (fun hy0 r6 f2_z e6_z o6 t6 k6_z => ?_))
    · exact False.elim (by first | omega | (rw [hc1] at hy1; cases hy1; done) | exact hc1 hy1 | exact hy1 hc1 | (cases Option.some.inj (hc1.symm.trans hy1); first | exact hc2 hy2 | exact hy2 hc2))
    · have hI2 : lwI (zsP w P2) f2_z j1 X _ ty im p B th pl N := ⟨lwC_f hC2 (fun q hq => o6.1 q (by omega)) (fun e => wyI_e e (fun r h1 h2 => o6.1 _ (by omega))) (fun e => wyI_e e (fun r h1 h2 => o6.1 _ (by omega))) (fun _ _ => rfl), lwM_kn hM2 (frM_su o6 (by decide) (by decide)) k6_z⟩
      have hl2 : (j1 (X + 260) 0).toInt = y1.toInt := by rw [hj1]
      have he9 : rc.toInt = r6.toInt := by rw [ec, e6_z]
      refine r_istore6 dL_law_948 rfl ?_
      refine r_aloadR2 dL_law_950 ?_
      refine q_callV0 zm_RL_151 dL_law_951 (shM_k hs) (by decide) rfl (by first | exact Nat.le_of_ble_eq_true rfl | omega | (dsimp only; omega)) (by first | exact Nat.le_of_ble_eq_true rfl | omega | (dsimp only; omega)) (by first | exact Nat.le_of_ble_eq_true rfl | omega | (dsimp only; omega)) (by first | exact Nat.le_of_ble_eq_true rfl | omega | (dsimp only; omega)) (by first | exact Nat.le_of_ble_eq_true rfl | omega | (dsimp only; omega)) (s_X12_thrown G hs (fun r7 e7_z => ?_))
      have e7i : r7.toInt = (f2_z (X + 239) 4).toInt := by rw [e7_z]
      refine r_iload5 dL_law_954 ?_
      refine t_iceq (t := 961) dL_law_956 (by decide) (fun h956 => ?_) (fun h956 => False.elim (by omega))
      refine r_iload5 dL_law_961 ?_
      refine t_ifne (t := 978) dL_law_963 (by decide) (fun h963 => False.elim (by omega)) (fun h963 => ?_)
      refine r_aloadR3 dL_law_966 ?_
      refine n_iconst dL_law_967 (by decide) (fun r967 e967 => ?_)
      refine m_lald (k := 0) (x := (j1 (X + 260) 0)) dL_law_968 hO.1 hO.2 (by omega) (by omega) (rfl) ?_
      refine r_iload6 dL_law_969 ?_
      refine n_i2l dL_law_971 (fun r971 e971 => ?_)
      refine n_lcmp dL_law_972 (fun r972 e972 => ?_)
      unfold zcmp at e972
      refine t_ifeq (t := 978) dL_law_973 (by decide) (fun h973 => ?_) (fun h973 => False.elim (by omega))
      refine r_goto (t := 2729) dL_law_978 (by decide) ?_
      refine kk _ _ _ _ _ _ _ _ ?_ ?_ (lwI_m hI2 (by omega))
      · first | omega | (dsimp only; omega)
      · first | omega | (dsimp only; omega)
set_option maxHeartbeats 4000000 in
set_option maxRecDepth 100000 in
theorem lc_15 {g : zGT} {Rm : Room} {QQ : List Frame → Array Value → State → State → Prop} {hh : List (Nat × Nat × Nat × Nat)} {nm : String} {w : zW} {f : Nat → Nat → Int32} {j : Nat → Nat → Int64} {s X L i N : Nat} {xs : Nat → Int32} {T : zTb} {ty : Nat → zTy} {im : Nat → Option zTb} {p : Nat} {B : Nat → Nat} {th pl : Int} {iv : Int32} {u5 u6 u7 : Option Value} {b : Nat × Nat} (G : zGok g) (hfr : 2048 ≤ Rm.frames) (hlo : 84000 ≤ Rm.locals) (hb1 : b.1 + 951 ≤ Rm.cells) (hb2 : b.2 + 1006 ≤ Rm.slots) (hT_z : ∀ U, g.2.2.2 U → va_T .int s L (fun k => .int (xs k)) (zA g.2.2.1) U U.heap) (hi_z : iv.toInt = (i : Nat)) (hiL : i + 6 ≤ L) (hL : L ≤ 3072) (h_z : lwI w f j X T ty im p B th pl N) (hN_z : N < 1900000000)  (kk : ∀ (T9 : zTb) (u5 u6 u7 : Option Value) w2 f2_z j2 b2, b2.1 ≤ b.1 + 951 → b2.2 ≤ b.2 + 1006 → lwI w2 f2_z j2 X T9 ty im p B th pl (N + 1) → zR (zVg g Rm QQ hh nm 8 (some .boolean)) cL_law RL 2729 [some (.ref s), some (.ref X), some (.ref (X + 239)), some (.ref (X + 260)), some (.int iv), u5, u6, u7] [] (zM w2 f2_z j2) b2) : zR (zVg g Rm QQ hh nm 8 (some .boolean)) cL_law RL 981 [some (.ref s), some (.ref X), some (.ref (X + 239)), some (.ref (X + 260)), some (.int iv), u5, u6, u7] [] (zM w f j) b := by
  have hx := h_z.1.1
  have hX := shX_k hx
  have hO := h_z.1.2.2.2.1
  have hs := h_z.1.2.2.2.2.1
  have ht := h_z.1.2.2.2.2.2.1
  have hw := tb_wf ht
  have hS2 := h_z.1.2.1
  have hz := h_z.1.2.2.1
  refine r_aloadR1 dL_law_981 ?_
  refine r_aloadR3 dL_law_982 ?_
  refine q_callW (As := [.ref X, .ref (X + 260)]) (rest := []) zw_shake dL_law_983 rfl rfl (by decide) (by first | exact Nat.le_of_ble_eq_true rfl | omega | (dsimp only; omega)) (by first | exact Nat.le_of_ble_eq_true rfl | omega | (dsimp only; omega)) (by first | exact Nat.le_of_ble_eq_true rfl | omega | (dsimp only; omega)) (by first | exact Nat.le_of_ble_eq_true rfl | omega | (dsimp only; omega)) (w_shake G hX (s_X11_shake G hx ht  (fun hc0 n hn => ⟨rfl, fun k1_z ek => ?_⟩) (fun hc0 rc P2 f1_z ec hq => ⟨rc, (zsP w P2), f1_z, j, rfl, rfl, hO.1, hO.2, fun k1_z y1 ek ey => ?_⟩)))
  · have hI1 := lwI_s (n := n) h_z hn
    rw [show zsS (zM w f j) n = zM (zsS w n) f j from rfl]
    have hs := hI1.1.2.2.2.2.1
    have hO := hI1.1.2.2.2.1
    refine r_istore5 dL_law_986 rfl ?_
    refine r_aloadR2 dL_law_988 ?_
    refine q_callV0 zm_RL_202 dL_law_989 (shM_k hs) (by decide) rfl (by decide) (by first | exact Nat.le_of_ble_eq_true rfl | omega | (dsimp only; omega)) (by first | exact Nat.le_of_ble_eq_true rfl | omega | (dsimp only; omega)) (by first | exact Nat.le_of_ble_eq_true rfl | omega | (dsimp only; omega)) (by first | exact Nat.le_of_ble_eq_true rfl | omega | (dsimp only; omega)) (s_X12_shake G hs hI1.2.1 hw (fun hy0 r6 f2_z o6 t6 => ?_) (fun hy0 r6 f2_z e6_z o6 t6 k6_z => ?_))
    · have hI2 := lwI_mf hI1 (frM_su o6 (by decide) (by decide))
      refine r_istore6 dL_law_992 rfl ?_
      refine r_aloadR2 dL_law_994 ?_
      refine q_callV0 zm_RL_151 dL_law_995 (shM_k hs) (by decide) rfl (by first | exact Nat.le_of_ble_eq_true rfl | omega | (dsimp only; omega)) (by first | exact Nat.le_of_ble_eq_true rfl | omega | (dsimp only; omega)) (by first | exact Nat.le_of_ble_eq_true rfl | omega | (dsimp only; omega)) (by first | exact Nat.le_of_ble_eq_true rfl | omega | (dsimp only; omega)) (by first | exact Nat.le_of_ble_eq_true rfl | omega | (dsimp only; omega)) (s_X12_thrown G hs (fun r7 e7_z => ?_))
      have e7i : r7.toInt = (f2_z (X + 239) 4).toInt := by rw [e7_z]
      refine r_iload5 dL_law_998 ?_
      refine t_iceq (t := 1005) dL_law_1000 (by decide) (fun h1000 => ?_) (fun h1000 => False.elim (by omega))
      refine r_iload5 dL_law_1005 ?_
      refine t_ifne (t := 1022) dL_law_1007 (by decide) (fun h1007 => ?_) (fun h1007 => False.elim (by omega))
      refine r_goto (t := 2729) dL_law_1022 (by decide) ?_
      refine kk _ _ _ _ _ _ _ _ ?_ ?_ (lwI_m hI2 (by omega))
      · first | omega | (dsimp only; omega)
      · first | omega | (dsimp only; omega)
    · exact False.elim (by first | omega | (rw [hc1] at hy1; cases hy1; done) | exact hc1 hy1 | exact hy1 hc1 | (cases Option.some.inj (hc1.symm.trans hy1); first | exact hc2 hy2 | exact hy2 hc2))
  · have hC1 := lwC_st h_z.1 hq
    have hM1 := lwM_e (f2_z := f1_z) (j2 := j) h_z.2 (fun q h1 h2 => hq.2.1 q (by omega)) (fun _ _ _ => rfl)
    have hC2 := lwC_f (f2_z := f1_z) (j2 := zu j (X + 260) 0 y1) hC1 (fun _ _ => rfl) (fun e => e) (fun e => e) (fun q hq => zu_ne (by omega))
    have hM2 := lwM_e (f2_z := f1_z) (j2 := zu j (X + 260) 0 y1) hM1 (fun _ _ _ => rfl) (fun q _ h2 => zu_ne (by omega))
    have hs := hC2.2.2.2.2.1
    have hj1 : zu j (X + 260) 0 y1 (X + 260) 0 = y1 := zu_at
    obtain ⟨j1, hj⟩ : ∃ j9, j9 = zu j (X + 260) 0 y1 := ⟨_, rfl⟩
    rw [← hj] at hC2 hM2 hj1 ⊢
    have hI1 := And.intro trivial hM2
    refine r_istore5 dL_law_986 rfl ?_
    refine r_aloadR2 dL_law_988 ?_
    refine q_callV0 zm_RL_202 dL_law_989 (shM_k hs) (by decide) rfl (by decide) (by first | exact Nat.le_of_ble_eq_true rfl | omega | (dsimp only; omega)) (by first | exact Nat.le_of_ble_eq_true rfl | omega | (dsimp only; omega)) (by first | exact Nat.le_of_ble_eq_true rfl | omega | (dsimp only; omega)) (by first | exact Nat.le_of_ble_eq_true rfl | omega | (dsimp only; omega)) (s_X12_shake G hs hI1.2.1 hw (fun hy0 r6 f2_z o6 t6 => ?_) (fun hy0 r6 f2_z e6_z o6 t6 k6_z => ?_))
    · exact False.elim (by first | omega | (rw [hc1] at hy1; cases hy1; done) | exact hc1 hy1 | exact hy1 hc1 | (cases Option.some.inj (hc1.symm.trans hy1); first | exact hc2 hy2 | exact hy2 hc2))
    · have hI2 : lwI (zsP w P2) f2_z j1 X _ ty im p B th pl N := ⟨lwC_f hC2 (fun q hq => o6.1 q (by omega)) (fun e => wyI_e e (fun r h1 h2 => o6.1 _ (by omega))) (fun e => wyI_e e (fun r h1 h2 => o6.1 _ (by omega))) (fun _ _ => rfl), lwM_kn hM2 (frM_su o6 (by decide) (by decide)) k6_z⟩
      have hl2 : (j1 (X + 260) 0).toInt = y1.toInt := by rw [hj1]
      have he9 : rc.toInt = r6.toInt := by rw [ec, e6_z]
      refine r_istore6 dL_law_992 rfl ?_
      refine r_aloadR2 dL_law_994 ?_
      refine q_callV0 zm_RL_151 dL_law_995 (shM_k hs) (by decide) rfl (by first | exact Nat.le_of_ble_eq_true rfl | omega | (dsimp only; omega)) (by first | exact Nat.le_of_ble_eq_true rfl | omega | (dsimp only; omega)) (by first | exact Nat.le_of_ble_eq_true rfl | omega | (dsimp only; omega)) (by first | exact Nat.le_of_ble_eq_true rfl | omega | (dsimp only; omega)) (by first | exact Nat.le_of_ble_eq_true rfl | omega | (dsimp only; omega)) (s_X12_thrown G hs (fun r7 e7_z => ?_))
      have e7i : r7.toInt = (f2_z (X + 239) 4).toInt := by rw [e7_z]
      refine r_iload5 dL_law_998 ?_
      refine t_iceq (t := 1005) dL_law_1000 (by decide) (fun h1000 => ?_) (fun h1000 => False.elim (by omega))
      refine r_iload5 dL_law_1005 ?_
      refine t_ifne (t := 1022) dL_law_1007 (by decide) (fun h1007 => False.elim (by omega)) (fun h1007 => ?_)
      refine r_aloadR3 dL_law_1010 ?_
      refine n_iconst dL_law_1011 (by decide) (fun r1011 e1011 => ?_)
      refine m_lald (k := 0) (x := (j1 (X + 260) 0)) dL_law_1012 hO.1 hO.2 (by omega) (by omega) (rfl) ?_
      refine r_iload6 dL_law_1013 ?_
      refine n_i2l dL_law_1015 (fun r1015 e1015 => ?_)
      refine n_lcmp dL_law_1016 (fun r1016 e1016 => ?_)
      unfold zcmp at e1016
      refine t_ifeq (t := 1022) dL_law_1017 (by decide) (fun h1017 => ?_) (fun h1017 => False.elim (by omega))
      refine r_goto (t := 2729) dL_law_1022 (by decide) ?_
      refine kk _ _ _ _ _ _ _ _ ?_ ?_ (lwI_m hI2 (by omega))
      · first | omega | (dsimp only; omega)
      · first | omega | (dsimp only; omega)
set_option maxHeartbeats 4000000 in
set_option maxRecDepth 100000 in
theorem lc_16 {g : zGT} {Rm : Room} {QQ : List Frame → Array Value → State → State → Prop} {hh : List (Nat × Nat × Nat × Nat)} {nm : String} {w : zW} {f : Nat → Nat → Int32} {j : Nat → Nat → Int64} {s X L i N : Nat} {xs : Nat → Int32} {T : zTb} {ty : Nat → zTy} {im : Nat → Option zTb} {p : Nat} {B : Nat → Nat} {th pl : Int} {iv : Int32} {u5 u6 u7 : Option Value} {b : Nat × Nat} (G : zGok g) (hfr : 2048 ≤ Rm.frames) (hlo : 84000 ≤ Rm.locals) (hb1 : b.1 + 951 ≤ Rm.cells) (hb2 : b.2 + 1006 ≤ Rm.slots) (hT_z : ∀ U, g.2.2.2 U → va_T .int s L (fun k => .int (xs k)) (zA g.2.2.1) U U.heap) (hi_z : iv.toInt = (i : Nat)) (hiL : i + 6 ≤ L) (hL : L ≤ 3072) (h_z : lwI w f j X T ty im p B th pl N) (hN_z : N < 1900000000)  (kk : ∀ (T9 : zTb) (u5 u6 u7 : Option Value) w2 f2_z j2 b2, b2.1 ≤ b.1 + 951 → b2.2 ≤ b.2 + 1006 → lwI w2 f2_z j2 X T9 ty im p B th pl (N + 1) → zR (zVg g Rm QQ hh nm 8 (some .boolean)) cL_law RL 2729 [some (.ref s), some (.ref X), some (.ref (X + 239)), some (.ref (X + 260)), some (.int iv), u5, u6, u7] [] (zM w2 f2_z j2) b2) : zR (zVg g Rm QQ hh nm 8 (some .boolean)) cL_law RL 1025 [some (.ref s), some (.ref X), some (.ref (X + 239)), some (.ref (X + 260)), some (.int iv), u5, u6, u7] [] (zM w f j) b := by
  have hx := h_z.1.1
  have hX := shX_k hx
  have hO := h_z.1.2.2.2.1
  have hs := h_z.1.2.2.2.2.1
  have ht := h_z.1.2.2.2.2.2.1
  have hw := tb_wf ht
  have hS2 := h_z.1.2.1
  have hz := h_z.1.2.2.1
  refine r_aloadR1 dL_law_1025 ?_
  refine r_aloadR0 dL_law_1026 ?_
  refine r_iload4 dL_law_1027 ?_
  refine n_iconst dL_law_1029 (by decide) (fun r1029 e1029 => ?_)
  refine n_iadd dL_law_1030 (by omega) (fun r1030 e1030 => ?_)
  refine k_iald (k := i + 1) (v := .int (xs (i + 1))) hT_z (by omega) (by omega) (by omega) rfl dL_law_1031 ?_
  refine r_aloadR0 dL_law_1032 ?_
  refine r_iload4 dL_law_1033 ?_
  refine n_iconst dL_law_1035 (by decide) (fun r1035 e1035 => ?_)
  refine n_iadd dL_law_1036 (by omega) (fun r1036 e1036 => ?_)
  refine k_iald (k := i + 2) (v := .int (xs (i + 2))) hT_z (by omega) (by omega) (by omega) rfl dL_law_1037 ?_
  refine r_aloadR0 dL_law_1038 ?_
  refine r_iload4 dL_law_1039 ?_
  refine n_iconst dL_law_1041 (by decide) (fun r1041 e1041 => ?_)
  refine n_iadd dL_law_1042 (by omega) (fun r1042 e1042 => ?_)
  refine k_iald (k := i + 3) (v := .int (xs (i + 3))) hT_z (by omega) (by omega) (by omega) rfl dL_law_1043 ?_
  refine r_aloadR3 dL_law_1044 ?_
  refine q_callW (As := [.ref X, .int (xs (i + 1)), .int (xs (i + 2)), .int (xs (i + 3)), .ref (X + 260)]) (rest := []) zw_amend dL_law_1045 rfl rfl (by decide) (by first | exact Nat.le_of_ble_eq_true rfl | omega | (dsimp only; omega)) (by first | exact Nat.le_of_ble_eq_true rfl | omega | (dsimp only; omega)) (by first | exact Nat.le_of_ble_eq_true rfl | omega | (dsimp only; omega)) (by first | exact Nat.le_of_ble_eq_true rfl | omega | (dsimp only; omega)) (w_amend G hX (s_X11_amend G hx ht  (fun hc0 n hn => Or.inl ⟨rfl, fun k1_z ek => ?_⟩) (fun hc0 hc1 n hn => Or.inr (⟨rfl, fun k1_z ek => ?_⟩)) (fun hc0 hc1 rc P2 f1_z ec hq => ⟨rc, (zsP w P2), f1_z, j, rfl, rfl, hO.1, hO.2, fun k1_z y1 ek ey => ?_⟩)))
  · have hI1 := lwI_s (n := n) h_z hn
    rw [show zsS (zM w f j) n = zM (zsS w n) f j from rfl]
    have hs := hI1.1.2.2.2.2.1
    have hO := hI1.1.2.2.2.1
    refine r_istore5 dL_law_1048 rfl ?_
    refine r_aloadR2 dL_law_1050 ?_
    refine r_aloadR0 dL_law_1051 ?_
    refine r_iload4 dL_law_1052 ?_
    refine n_iconst dL_law_1054 (by decide) (fun r1054 e1054 => ?_)
    refine n_iadd dL_law_1055 (by omega) (fun r1055 e1055 => ?_)
    refine k_iald (k := i + 1) (v := .int (xs (i + 1))) hT_z (by omega) (by omega) (by omega) rfl dL_law_1056 ?_
    refine r_aloadR0 dL_law_1057 ?_
    refine r_iload4 dL_law_1058 ?_
    refine n_iconst dL_law_1060 (by decide) (fun r1060 e1060 => ?_)
    refine n_iadd dL_law_1061 (by omega) (fun r1061 e1061 => ?_)
    refine k_iald (k := i + 2) (v := .int (xs (i + 2))) hT_z (by omega) (by omega) (by omega) rfl dL_law_1062 ?_
    refine r_aloadR0 dL_law_1063 ?_
    refine r_iload4 dL_law_1064 ?_
    refine n_iconst dL_law_1066 (by decide) (fun r1066 e1066 => ?_)
    refine n_iadd dL_law_1067 (by omega) (fun r1067 e1067 => ?_)
    refine k_iald (k := i + 3) (v := .int (xs (i + 3))) hT_z (by omega) (by omega) (by omega) rfl dL_law_1068 ?_
    refine q_callV3 zm_RL_206 dL_law_1069 (shM_k hs) (by decide) rfl (by decide) (by first | exact Nat.le_of_ble_eq_true rfl | omega | (dsimp only; omega)) (by first | exact Nat.le_of_ble_eq_true rfl | omega | (dsimp only; omega)) (by first | exact Nat.le_of_ble_eq_true rfl | omega | (dsimp only; omega)) (by first | exact Nat.le_of_ble_eq_true rfl | omega | (dsimp only; omega)) (s_X12_amend G hs hI1.2.1 hw (fun hy0 r6 f2_z o6 t6 => ?_) (fun hy0 hy1 r6 f2_z o6 t6 => ?_) (fun hy0 hy1 r6 f2_z e6_z o6 t6 k6_z => ?_))
    · have hI2 := lwI_mf hI1 (frM_su o6 (by decide) (by decide))
      refine r_istore6 dL_law_1072 rfl ?_
      refine r_aloadR2 dL_law_1074 ?_
      refine q_callV0 zm_RL_151 dL_law_1075 (shM_k hs) (by decide) rfl (by first | exact Nat.le_of_ble_eq_true rfl | omega | (dsimp only; omega)) (by first | exact Nat.le_of_ble_eq_true rfl | omega | (dsimp only; omega)) (by first | exact Nat.le_of_ble_eq_true rfl | omega | (dsimp only; omega)) (by first | exact Nat.le_of_ble_eq_true rfl | omega | (dsimp only; omega)) (by first | exact Nat.le_of_ble_eq_true rfl | omega | (dsimp only; omega)) (s_X12_thrown G hs (fun r7 e7_z => ?_))
      have e7i : r7.toInt = (f2_z (X + 239) 4).toInt := by rw [e7_z]
      refine r_iload5 dL_law_1078 ?_
      refine t_iceq (t := 1085) dL_law_1080 (by decide) (fun h1080 => ?_) (fun h1080 => False.elim (by omega))
      refine r_iload5 dL_law_1085 ?_
      refine t_ifne (t := 1102) dL_law_1087 (by decide) (fun h1087 => ?_) (fun h1087 => False.elim (by omega))
      refine r_goto (t := 2729) dL_law_1102 (by decide) ?_
      refine kk _ _ _ _ _ _ _ _ ?_ ?_ (lwI_m hI2 (by omega))
      · first | omega | (dsimp only; omega)
      · first | omega | (dsimp only; omega)
    · exact False.elim (by first | omega | (rw [hc1] at hy1; cases hy1; done) | exact hc1 hy1 | exact hy1 hc1 | (cases Option.some.inj (hc1.symm.trans hy1); first | exact hc2 hy2 | exact hy2 hc2))
    · exact False.elim (by first | omega | (rw [hc1] at hy1; cases hy1; done) | exact hc1 hy1 | exact hy1 hc1 | (cases Option.some.inj (hc1.symm.trans hy1); first | exact hc2 hy2 | exact hy2 hc2))
  · have hI1 := lwI_s (n := n) h_z hn
    rw [show zsS (zM w f j) n = zM (zsS w n) f j from rfl]
    have hs := hI1.1.2.2.2.2.1
    have hO := hI1.1.2.2.2.1
    refine r_istore5 dL_law_1048 rfl ?_
    refine r_aloadR2 dL_law_1050 ?_
    refine r_aloadR0 dL_law_1051 ?_
    refine r_iload4 dL_law_1052 ?_
    refine n_iconst dL_law_1054 (by decide) (fun r1054 e1054 => ?_)
    refine n_iadd dL_law_1055 (by omega) (fun r1055 e1055 => ?_)
    refine k_iald (k := i + 1) (v := .int (xs (i + 1))) hT_z (by omega) (by omega) (by omega) rfl dL_law_1056 ?_
    refine r_aloadR0 dL_law_1057 ?_
    refine r_iload4 dL_law_1058 ?_
    refine n_iconst dL_law_1060 (by decide) (fun r1060 e1060 => ?_)
    refine n_iadd dL_law_1061 (by omega) (fun r1061 e1061 => ?_)
    refine k_iald (k := i + 2) (v := .int (xs (i + 2))) hT_z (by omega) (by omega) (by omega) rfl dL_law_1062 ?_
    refine r_aloadR0 dL_law_1063 ?_
    refine r_iload4 dL_law_1064 ?_
    refine n_iconst dL_law_1066 (by decide) (fun r1066 e1066 => ?_)
    refine n_iadd dL_law_1067 (by omega) (fun r1067 e1067 => ?_)
    refine k_iald (k := i + 3) (v := .int (xs (i + 3))) hT_z (by omega) (by omega) (by omega) rfl dL_law_1068 ?_
    refine q_callV3 zm_RL_206 dL_law_1069 (shM_k hs) (by decide) rfl (by decide) (by first | exact Nat.le_of_ble_eq_true rfl | omega | (dsimp only; omega)) (by first | exact Nat.le_of_ble_eq_true rfl | omega | (dsimp only; omega)) (by first | exact Nat.le_of_ble_eq_true rfl | omega | (dsimp only; omega)) (by first | exact Nat.le_of_ble_eq_true rfl | omega | (dsimp only; omega)) (s_X12_amend G hs hI1.2.1 hw (fun hy0 r6 f2_z o6 t6 => ?_) (fun hy0 hy1 r6 f2_z o6 t6 => ?_) (fun hy0 hy1 r6 f2_z e6_z o6 t6 k6_z => ?_))
    · exact False.elim (by first | omega | (rw [hc1] at hy1; cases hy1; done) | exact hc1 hy1 | exact hy1 hc1 | (cases Option.some.inj (hc1.symm.trans hy1); first | exact hc2 hy2 | exact hy2 hc2))
    · have hI2 := lwI_mf hI1 (frM_su o6 (by decide) (by decide))
      refine r_istore6 dL_law_1072 rfl ?_
      refine r_aloadR2 dL_law_1074 ?_
      refine q_callV0 zm_RL_151 dL_law_1075 (shM_k hs) (by decide) rfl (by first | exact Nat.le_of_ble_eq_true rfl | omega | (dsimp only; omega)) (by first | exact Nat.le_of_ble_eq_true rfl | omega | (dsimp only; omega)) (by first | exact Nat.le_of_ble_eq_true rfl | omega | (dsimp only; omega)) (by first | exact Nat.le_of_ble_eq_true rfl | omega | (dsimp only; omega)) (by first | exact Nat.le_of_ble_eq_true rfl | omega | (dsimp only; omega)) (s_X12_thrown G hs (fun r7 e7_z => ?_))
      have e7i : r7.toInt = (f2_z (X + 239) 4).toInt := by rw [e7_z]
      refine r_iload5 dL_law_1078 ?_
      refine t_iceq (t := 1085) dL_law_1080 (by decide) (fun h1080 => ?_) (fun h1080 => False.elim (by omega))
      refine r_iload5 dL_law_1085 ?_
      refine t_ifne (t := 1102) dL_law_1087 (by decide) (fun h1087 => ?_) (fun h1087 => False.elim (by omega))
      refine r_goto (t := 2729) dL_law_1102 (by decide) ?_
      refine kk _ _ _ _ _ _ _ _ ?_ ?_ (lwI_m hI2 (by omega))
      · first | omega | (dsimp only; omega)
      · first | omega | (dsimp only; omega)
    · exact False.elim (by first | omega | (rw [hc1] at hy1; cases hy1; done) | exact hc1 hy1 | exact hy1 hc1 | (cases Option.some.inj (hc1.symm.trans hy1); first | exact hc2 hy2 | exact hy2 hc2))
  · have hC1 := lwC_st h_z.1 hq
    have hM1 := lwM_e (f2_z := f1_z) (j2 := j) h_z.2 (fun q h1 h2 => hq.2.1 q (by omega)) (fun _ _ _ => rfl)
    have hC2 := lwC_f (f2_z := f1_z) (j2 := zu j (X + 260) 0 y1) hC1 (fun _ _ => rfl) (fun e => e) (fun e => e) (fun q hq => zu_ne (by omega))
    have hM2 := lwM_e (f2_z := f1_z) (j2 := zu j (X + 260) 0 y1) hM1 (fun _ _ _ => rfl) (fun q _ h2 => zu_ne (by omega))
    have hs := hC2.2.2.2.2.1
    have hj1 : zu j (X + 260) 0 y1 (X + 260) 0 = y1 := zu_at
    obtain ⟨j1, hj⟩ : ∃ j9, j9 = zu j (X + 260) 0 y1 := ⟨_, rfl⟩
    rw [← hj] at hC2 hM2 hj1 ⊢
    have hI1 := And.intro trivial hM2
    refine r_istore5 dL_law_1048 rfl ?_
    refine r_aloadR2 dL_law_1050 ?_
    refine r_aloadR0 dL_law_1051 ?_
    refine r_iload4 dL_law_1052 ?_
    refine n_iconst dL_law_1054 (by decide) (fun r1054 e1054 => ?_)
    refine n_iadd dL_law_1055 (by omega) (fun r1055 e1055 => ?_)
    refine k_iald (k := i + 1) (v := .int (xs (i + 1))) hT_z (by omega) (by omega) (by omega) rfl dL_law_1056 ?_
    refine r_aloadR0 dL_law_1057 ?_
    refine r_iload4 dL_law_1058 ?_
    refine n_iconst dL_law_1060 (by decide) (fun r1060 e1060 => ?_)
    refine n_iadd dL_law_1061 (by omega) (fun r1061 e1061 => ?_)
    refine k_iald (k := i + 2) (v := .int (xs (i + 2))) hT_z (by omega) (by omega) (by omega) rfl dL_law_1062 ?_
    refine r_aloadR0 dL_law_1063 ?_
    refine r_iload4 dL_law_1064 ?_
    refine n_iconst dL_law_1066 (by decide) (fun r1066 e1066 => ?_)
    refine n_iadd dL_law_1067 (by omega) (fun r1067 e1067 => ?_)
    refine k_iald (k := i + 3) (v := .int (xs (i + 3))) hT_z (by omega) (by omega) (by omega) rfl dL_law_1068 ?_
    refine q_callV3 zm_RL_206 dL_law_1069 (shM_k hs) (by decide) rfl (by decide) (by first | exact Nat.le_of_ble_eq_true rfl | omega | (dsimp only; omega)) (by first | exact Nat.le_of_ble_eq_true rfl | omega | (dsimp only; omega)) (by first | exact Nat.le_of_ble_eq_true rfl | omega | (dsimp only; omega)) (by first | exact Nat.le_of_ble_eq_true rfl | omega | (dsimp only; omega)) (s_X12_amend G hs hI1.2.1 hw (fun hy0 r6 f2_z o6 t6 => ?_) (fun hy0 hy1 r6 f2_z o6 t6 => ?_) (fun hy0 hy1 r6 f2_z e6_z o6 t6 k6_z => ?_))
    · exact False.elim (by first | omega | (rw [hc1] at hy1; cases hy1; done) | exact hc1 hy1 | exact hy1 hc1 | (cases Option.some.inj (hc1.symm.trans hy1); first | exact hc2 hy2 | exact hy2 hc2))
    · exact False.elim (by first | omega | (rw [hc1] at hy1; cases hy1; done) | exact hc1 hy1 | exact hy1 hc1 | (cases Option.some.inj (hc1.symm.trans hy1); first | exact hc2 hy2 | exact hy2 hc2))
    · have hI2 : lwI (zsP w P2) f2_z j1 X _ ty im p B th pl N := ⟨lwC_f hC2 (fun q hq => o6.1 q (by omega)) (fun e => wyI_e e (fun r h1 h2 => o6.1 _ (by omega))) (fun e => wyI_e e (fun r h1 h2 => o6.1 _ (by omega))) (fun _ _ => rfl), lwM_kn hM2 (frM_su o6 (by decide) (by decide)) k6_z⟩
      have hl2 : (j1 (X + 260) 0).toInt = y1.toInt := by rw [hj1]
      have he9 : rc.toInt = r6.toInt := by rw [ec, e6_z]
      refine r_istore6 dL_law_1072 rfl ?_
      refine r_aloadR2 dL_law_1074 ?_
      refine q_callV0 zm_RL_151 dL_law_1075 (shM_k hs) (by decide) rfl (by first | exact Nat.le_of_ble_eq_true rfl | omega | (dsimp only; omega)) (by first | exact Nat.le_of_ble_eq_true rfl | omega | (dsimp only; omega)) (by first | exact Nat.le_of_ble_eq_true rfl | omega | (dsimp only; omega)) (by first | exact Nat.le_of_ble_eq_true rfl | omega | (dsimp only; omega)) (by first | exact Nat.le_of_ble_eq_true rfl | omega | (dsimp only; omega)) (s_X12_thrown G hs (fun r7 e7_z => ?_))
      have e7i : r7.toInt = (f2_z (X + 239) 4).toInt := by rw [e7_z]
      refine r_iload5 dL_law_1078 ?_
      refine t_iceq (t := 1085) dL_law_1080 (by decide) (fun h1080 => ?_) (fun h1080 => False.elim (by omega))
      refine r_iload5 dL_law_1085 ?_
      refine t_ifne (t := 1102) dL_law_1087 (by decide) (fun h1087 => False.elim (by omega)) (fun h1087 => ?_)
      refine r_aloadR3 dL_law_1090 ?_
      refine n_iconst dL_law_1091 (by decide) (fun r1091 e1091 => ?_)
      refine m_lald (k := 0) (x := (j1 (X + 260) 0)) dL_law_1092 hO.1 hO.2 (by omega) (by omega) (rfl) ?_
      refine r_iload6 dL_law_1093 ?_
      refine n_i2l dL_law_1095 (fun r1095 e1095 => ?_)
      refine n_lcmp dL_law_1096 (fun r1096 e1096 => ?_)
      unfold zcmp at e1096
      refine t_ifeq (t := 1102) dL_law_1097 (by decide) (fun h1097 => ?_) (fun h1097 => False.elim (by omega))
      refine r_goto (t := 2729) dL_law_1102 (by decide) ?_
      refine kk _ _ _ _ _ _ _ _ ?_ ?_ (lwI_m hI2 (by omega))
      · first | omega | (dsimp only; omega)
      · first | omega | (dsimp only; omega)
set_option maxHeartbeats 4000000 in
set_option maxRecDepth 100000 in
theorem lc_17 {g : zGT} {Rm : Room} {QQ : List Frame → Array Value → State → State → Prop} {hh : List (Nat × Nat × Nat × Nat)} {nm : String} {w : zW} {f : Nat → Nat → Int32} {j : Nat → Nat → Int64} {s X L i N : Nat} {xs : Nat → Int32} {T : zTb} {ty : Nat → zTy} {im : Nat → Option zTb} {p : Nat} {B : Nat → Nat} {th pl : Int} {iv : Int32} {u5 u6 u7 : Option Value} {b : Nat × Nat} (G : zGok g) (hfr : 2048 ≤ Rm.frames) (hlo : 84000 ≤ Rm.locals) (hb1 : b.1 + 951 ≤ Rm.cells) (hb2 : b.2 + 1006 ≤ Rm.slots) (hT_z : ∀ U, g.2.2.2 U → va_T .int s L (fun k => .int (xs k)) (zA g.2.2.1) U U.heap) (hi_z : iv.toInt = (i : Nat)) (hiL : i + 6 ≤ L) (hL : L ≤ 3072) (h_z : lwI w f j X T ty im p B th pl N) (hN_z : N < 1900000000)  (kk : ∀ (T9 : zTb) (u5 u6 u7 : Option Value) w2 f2_z j2 b2, b2.1 ≤ b.1 + 951 → b2.2 ≤ b.2 + 1006 → lwI w2 f2_z j2 X T9 ty im p B th pl (N + 1) → zR (zVg g Rm QQ hh nm 8 (some .boolean)) cL_law RL 2729 [some (.ref s), some (.ref X), some (.ref (X + 239)), some (.ref (X + 260)), some (.int iv), u5, u6, u7] [] (zM w2 f2_z j2) b2) : zR (zVg g Rm QQ hh nm 8 (some .boolean)) cL_law RL 1105 [some (.ref s), some (.ref X), some (.ref (X + 239)), some (.ref (X + 260)), some (.int iv), u5, u6, u7] [] (zM w f j) b := by
  have hx := h_z.1.1
  have hX := shX_k hx
  have hO := h_z.1.2.2.2.1
  have hs := h_z.1.2.2.2.2.1
  have ht := h_z.1.2.2.2.2.2.1
  have hw := tb_wf ht
  have hS2 := h_z.1.2.1
  have hz := h_z.1.2.2.1
  refine r_aloadR1 dL_law_1105 ?_
  refine r_aloadR0 dL_law_1106 ?_
  refine r_iload4 dL_law_1107 ?_
  refine n_iconst dL_law_1109 (by decide) (fun r1109 e1109 => ?_)
  refine n_iadd dL_law_1110 (by omega) (fun r1110 e1110 => ?_)
  refine k_iald (k := i + 1) (v := .int (xs (i + 1))) hT_z (by omega) (by omega) (by omega) rfl dL_law_1111 ?_
  refine r_aloadR3 dL_law_1112 ?_
  refine q_callW (As := [.ref X, .int (xs (i + 1)), .ref (X + 260)]) (rest := []) zw_undo dL_law_1113 rfl rfl (by decide) (by first | exact Nat.le_of_ble_eq_true rfl | omega | (dsimp only; omega)) (by first | exact Nat.le_of_ble_eq_true rfl | omega | (dsimp only; omega)) (by first | exact Nat.le_of_ble_eq_true rfl | omega | (dsimp only; omega)) (by first | exact Nat.le_of_ble_eq_true rfl | omega | (dsimp only; omega)) (w_undo G hX (s_X11_undo G hx ht  (fun hc0 n hn => ⟨rfl, fun k1_z ek => ?_⟩) (fun hc0 rc P2 f1_z ec hq => ⟨rc, (zsP w P2), f1_z, j, rfl, rfl, hO.1, hO.2, fun k1_z y1 ek ey => ?_⟩)))
  · have hI1 := lwI_s (n := n) h_z hn
    rw [show zsS (zM w f j) n = zM (zsS w n) f j from rfl]
    have hs := hI1.1.2.2.2.2.1
    have hO := hI1.1.2.2.2.1
    refine r_istore5 dL_law_1116 rfl ?_
    refine r_aloadR2 dL_law_1118 ?_
    refine r_aloadR0 dL_law_1119 ?_
    refine r_iload4 dL_law_1120 ?_
    refine n_iconst dL_law_1122 (by decide) (fun r1122 e1122 => ?_)
    refine n_iadd dL_law_1123 (by omega) (fun r1123 e1123 => ?_)
    refine k_iald (k := i + 1) (v := .int (xs (i + 1))) hT_z (by omega) (by omega) (by omega) rfl dL_law_1124 ?_
    refine q_callV1 zm_RL_209 dL_law_1125 (shM_k hs) (by decide) rfl (by decide) (by first | exact Nat.le_of_ble_eq_true rfl | omega | (dsimp only; omega)) (by first | exact Nat.le_of_ble_eq_true rfl | omega | (dsimp only; omega)) (by first | exact Nat.le_of_ble_eq_true rfl | omega | (dsimp only; omega)) (by first | exact Nat.le_of_ble_eq_true rfl | omega | (dsimp only; omega)) (s_X12_undo G hs hI1.2.1 hw (fun hy0 r6 f2_z o6 t6 => ?_) (fun hy0 r6 f2_z e6_z o6 t6 k6_z => ?_))
    · have hI2 := lwI_mf hI1 (frM_su o6 (by decide) (by decide))
      refine r_istore6 dL_law_1128 rfl ?_
      refine r_aloadR2 dL_law_1130 ?_
      refine q_callV0 zm_RL_151 dL_law_1131 (shM_k hs) (by decide) rfl (by first | exact Nat.le_of_ble_eq_true rfl | omega | (dsimp only; omega)) (by first | exact Nat.le_of_ble_eq_true rfl | omega | (dsimp only; omega)) (by first | exact Nat.le_of_ble_eq_true rfl | omega | (dsimp only; omega)) (by first | exact Nat.le_of_ble_eq_true rfl | omega | (dsimp only; omega)) (by first | exact Nat.le_of_ble_eq_true rfl | omega | (dsimp only; omega)) (s_X12_thrown G hs (fun r7 e7_z => ?_))
      have e7i : r7.toInt = (f2_z (X + 239) 4).toInt := by rw [e7_z]
      refine r_iload5 dL_law_1134 ?_
      refine t_iceq (t := 1141) dL_law_1136 (by decide) (fun h1136 => ?_) (fun h1136 => False.elim (by omega))
      refine r_iload5 dL_law_1141 ?_
      refine t_ifne (t := 1158) dL_law_1143 (by decide) (fun h1143 => ?_) (fun h1143 => False.elim (by omega))
      refine r_goto (t := 2729) dL_law_1158 (by decide) ?_
      refine kk _ _ _ _ _ _ _ _ ?_ ?_ (lwI_m hI2 (by omega))
      · first | omega | (dsimp only; omega)
      · first | omega | (dsimp only; omega)
    · exact False.elim (by first | omega | (rw [hc1] at hy1; cases hy1; done) | exact hc1 hy1 | exact hy1 hc1 | (cases Option.some.inj (hc1.symm.trans hy1); first | exact hc2 hy2 | exact hy2 hc2))
  · have hC1 := lwC_st h_z.1 hq
    have hM1 := lwM_e (f2_z := f1_z) (j2 := j) h_z.2 (fun q h1 h2 => hq.2.1 q (by omega)) (fun _ _ _ => rfl)
    have hC2 := lwC_f (f2_z := f1_z) (j2 := zu j (X + 260) 0 y1) hC1 (fun _ _ => rfl) (fun e => e) (fun e => e) (fun q hq => zu_ne (by omega))
    have hM2 := lwM_e (f2_z := f1_z) (j2 := zu j (X + 260) 0 y1) hM1 (fun _ _ _ => rfl) (fun q _ h2 => zu_ne (by omega))
    have hs := hC2.2.2.2.2.1
    have hj1 : zu j (X + 260) 0 y1 (X + 260) 0 = y1 := zu_at
    obtain ⟨j1, hj⟩ : ∃ j9, j9 = zu j (X + 260) 0 y1 := ⟨_, rfl⟩
    rw [← hj] at hC2 hM2 hj1 ⊢
    have hI1 := And.intro trivial hM2
    refine r_istore5 dL_law_1116 rfl ?_
    refine r_aloadR2 dL_law_1118 ?_
    refine r_aloadR0 dL_law_1119 ?_
    refine r_iload4 dL_law_1120 ?_
    refine n_iconst dL_law_1122 (by decide) (fun r1122 e1122 => ?_)
    refine n_iadd dL_law_1123 (by omega) (fun r1123 e1123 => ?_)
    refine k_iald (k := i + 1) (v := .int (xs (i + 1))) hT_z (by omega) (by omega) (by omega) rfl dL_law_1124 ?_
    refine q_callV1 zm_RL_209 dL_law_1125 (shM_k hs) (by decide) rfl (by decide) (by first | exact Nat.le_of_ble_eq_true rfl | omega | (dsimp only; omega)) (by first | exact Nat.le_of_ble_eq_true rfl | omega | (dsimp only; omega)) (by first | exact Nat.le_of_ble_eq_true rfl | omega | (dsimp only; omega)) (by first | exact Nat.le_of_ble_eq_true rfl | omega | (dsimp only; omega)) (s_X12_undo G hs hI1.2.1 hw (fun hy0 r6 f2_z o6 t6 => ?_) (fun hy0 r6 f2_z e6_z o6 t6 k6_z => ?_))
    · exact False.elim (by first | omega | (rw [hc1] at hy1; cases hy1; done) | exact hc1 hy1 | exact hy1 hc1 | (cases Option.some.inj (hc1.symm.trans hy1); first | exact hc2 hy2 | exact hy2 hc2))
    · have hI2 : lwI (zsP w P2) f2_z j1 X _ ty im p B th pl N := ⟨lwC_f hC2 (fun q hq => o6.1 q (by omega)) (fun e => wyI_e e (fun r h1 h2 => o6.1 _ (by omega))) (fun e => wyI_e e (fun r h1 h2 => o6.1 _ (by omega))) (fun _ _ => rfl), lwM_kn hM2 (frM_su o6 (by decide) (by decide)) k6_z⟩
      have hl2 : (j1 (X + 260) 0).toInt = y1.toInt := by rw [hj1]
      have he9 : rc.toInt = r6.toInt := by rw [ec, e6_z]
      refine r_istore6 dL_law_1128 rfl ?_
      refine r_aloadR2 dL_law_1130 ?_
      refine q_callV0 zm_RL_151 dL_law_1131 (shM_k hs) (by decide) rfl (by first | exact Nat.le_of_ble_eq_true rfl | omega | (dsimp only; omega)) (by first | exact Nat.le_of_ble_eq_true rfl | omega | (dsimp only; omega)) (by first | exact Nat.le_of_ble_eq_true rfl | omega | (dsimp only; omega)) (by first | exact Nat.le_of_ble_eq_true rfl | omega | (dsimp only; omega)) (by first | exact Nat.le_of_ble_eq_true rfl | omega | (dsimp only; omega)) (s_X12_thrown G hs (fun r7 e7_z => ?_))
      have e7i : r7.toInt = (f2_z (X + 239) 4).toInt := by rw [e7_z]
      refine r_iload5 dL_law_1134 ?_
      refine t_iceq (t := 1141) dL_law_1136 (by decide) (fun h1136 => ?_) (fun h1136 => False.elim (by omega))
      refine r_iload5 dL_law_1141 ?_
      refine t_ifne (t := 1158) dL_law_1143 (by decide) (fun h1143 => False.elim (by omega)) (fun h1143 => ?_)
      refine r_aloadR3 dL_law_1146 ?_
      refine n_iconst dL_law_1147 (by decide) (fun r1147 e1147 => ?_)
      refine m_lald (k := 0) (x := (j1 (X + 260) 0)) dL_law_1148 hO.1 hO.2 (by omega) (by omega) (rfl) ?_
      refine r_iload6 dL_law_1149 ?_
      refine n_i2l dL_law_1151 (fun r1151 e1151 => ?_)
      refine n_lcmp dL_law_1152 (fun r1152 e1152 => ?_)
      unfold zcmp at e1152
      refine t_ifeq (t := 1158) dL_law_1153 (by decide) (fun h1153 => ?_) (fun h1153 => False.elim (by omega))
      refine r_goto (t := 2729) dL_law_1158 (by decide) ?_
      refine kk _ _ _ _ _ _ _ _ ?_ ?_ (lwI_m hI2 (by omega))
      · first | omega | (dsimp only; omega)
      · first | omega | (dsimp only; omega)
set_option maxHeartbeats 4000000 in
set_option maxRecDepth 100000 in
theorem lc_19 {g : zGT} {Rm : Room} {QQ : List Frame → Array Value → State → State → Prop} {hh : List (Nat × Nat × Nat × Nat)} {nm : String} {w : zW} {f : Nat → Nat → Int32} {j : Nat → Nat → Int64} {s X L i N : Nat} {xs : Nat → Int32} {T : zTb} {ty : Nat → zTy} {im : Nat → Option zTb} {p : Nat} {B : Nat → Nat} {th pl : Int} {iv : Int32} {u5 u6 u7 : Option Value} {b : Nat × Nat} (G : zGok g) (hfr : 2048 ≤ Rm.frames) (hlo : 84000 ≤ Rm.locals) (hb1 : b.1 + 951 ≤ Rm.cells) (hb2 : b.2 + 1006 ≤ Rm.slots) (hT_z : ∀ U, g.2.2.2 U → va_T .int s L (fun k => .int (xs k)) (zA g.2.2.1) U U.heap) (hi_z : iv.toInt = (i : Nat)) (hiL : i + 6 ≤ L) (hL : L ≤ 3072) (h_z : lwI w f j X T ty im p B th pl N) (hN_z : N < 1900000000)  (kk : ∀ (T9 : zTb) (u5 u6 u7 : Option Value) w2 f2_z j2 b2, b2.1 ≤ b.1 + 951 → b2.2 ≤ b.2 + 1006 → lwI w2 f2_z j2 X T9 ty im p B th pl (N + 1) → zR (zVg g Rm QQ hh nm 8 (some .boolean)) cL_law RL 2729 [some (.ref s), some (.ref X), some (.ref (X + 239)), some (.ref (X + 260)), some (.int iv), u5, u6, u7] [] (zM w2 f2_z j2) b2) : zR (zVg g Rm QQ hh nm 8 (some .boolean)) cL_law RL 1229 [some (.ref s), some (.ref X), some (.ref (X + 239)), some (.ref (X + 260)), some (.int iv), u5, u6, u7] [] (zM w f j) b := by
  have hx := h_z.1.1
  have hX := shX_k hx
  have hO := h_z.1.2.2.2.1
  have hs := h_z.1.2.2.2.2.1
  have ht := h_z.1.2.2.2.2.2.1
  have hw := tb_wf ht
  have hS2 := h_z.1.2.1
  have hz := h_z.1.2.2.1
  refine r_aloadR1 dL_law_1229 ?_
  refine r_aloadR0 dL_law_1230 ?_
  refine r_iload4 dL_law_1231 ?_
  refine n_iconst dL_law_1233 (by decide) (fun r1233 e1233 => ?_)
  refine n_iadd dL_law_1234 (by omega) (fun r1234 e1234 => ?_)
  refine k_iald (k := i + 1) (v := .int (xs (i + 1))) hT_z (by omega) (by omega) (by omega) rfl dL_law_1235 ?_
  refine r_aloadR3 dL_law_1236 ?_
  refine q_callW (As := [.ref X, .int (xs (i + 1)), .ref (X + 260)]) (rest := []) zw_perform dL_law_1237 rfl rfl (by decide) (by first | exact Nat.le_of_ble_eq_true rfl | omega | (dsimp only; omega)) (by first | exact Nat.le_of_ble_eq_true rfl | omega | (dsimp only; omega)) (by first | exact Nat.le_of_ble_eq_true rfl | omega | (dsimp only; omega)) (by first | exact Nat.le_of_ble_eq_true rfl | omega | (dsimp only; omega)) (w_perform G hX (s_X11_perform G hx ht h_z.1.2.2.2.2.2.2.2.2.1  (fun hc0 n hn => Or.inl ⟨rfl, fun k1_z ek => ?_⟩) (fun hc0 hc1 n hn => Or.inr (⟨rfl, fun k1_z ek => ?_⟩)) (fun hc0 s l hc1 rc P2 f1_z ec hq => ⟨rc, (zsP w P2), f1_z, j, rfl, rfl, hO.1, hO.2, fun k1_z y1 ek ey => ?_⟩)))
  · have hI1 := lwI_s (n := n) h_z hn
    rw [show zsS (zM w f j) n = zM (zsS w n) f j from rfl]
    have hs := hI1.1.2.2.2.2.1
    have hO := hI1.1.2.2.2.1
    refine r_istore5 dL_law_1240 rfl ?_
    refine r_aloadR2 dL_law_1242 ?_
    refine r_aloadR0 dL_law_1243 ?_
    refine r_iload4 dL_law_1244 ?_
    refine n_iconst dL_law_1246 (by decide) (fun r1246 e1246 => ?_)
    refine n_iadd dL_law_1247 (by omega) (fun r1247 e1247 => ?_)
    refine k_iald (k := i + 1) (v := .int (xs (i + 1))) hT_z (by omega) (by omega) (by omega) rfl dL_law_1248 ?_
    refine q_callV1 zm_RL_215 dL_law_1249 (shM_k hs) (by decide) rfl (by decide) (by first | exact Nat.le_of_ble_eq_true rfl | omega | (dsimp only; omega)) (by first | exact Nat.le_of_ble_eq_true rfl | omega | (dsimp only; omega)) (by first | exact Nat.le_of_ble_eq_true rfl | omega | (dsimp only; omega)) (by first | exact Nat.le_of_ble_eq_true rfl | omega | (dsimp only; omega)) (s_X12_perform G hs hI1.2.1 hw hI1.2.2.1 (fun hy0 r6 f2_z o6 t6 => ?_) (fun hy0 hy1 r6 f2_z o6 t6 => ?_) (fun hy0 s9 l9 hy1 r6 f2_z e6_z o6 t6 k6_z => ?_))
    · have hI2 := lwI_mf hI1 (frM_su o6 (by decide) (by decide))
      refine r_istore6 dL_law_1252 rfl ?_
      refine r_aloadR2 dL_law_1254 ?_
      refine q_callV0 zm_RL_151 dL_law_1255 (shM_k hs) (by decide) rfl (by first | exact Nat.le_of_ble_eq_true rfl | omega | (dsimp only; omega)) (by first | exact Nat.le_of_ble_eq_true rfl | omega | (dsimp only; omega)) (by first | exact Nat.le_of_ble_eq_true rfl | omega | (dsimp only; omega)) (by first | exact Nat.le_of_ble_eq_true rfl | omega | (dsimp only; omega)) (by first | exact Nat.le_of_ble_eq_true rfl | omega | (dsimp only; omega)) (s_X12_thrown G hs (fun r7 e7_z => ?_))
      have e7i : r7.toInt = (f2_z (X + 239) 4).toInt := by rw [e7_z]
      refine r_iload5 dL_law_1258 ?_
      refine t_iceq (t := 1265) dL_law_1260 (by decide) (fun h1260 => ?_) (fun h1260 => False.elim (by omega))
      refine r_iload5 dL_law_1265 ?_
      refine t_ifne (t := 1282) dL_law_1267 (by decide) (fun h1267 => ?_) (fun h1267 => False.elim (by omega))
      refine r_goto (t := 2729) dL_law_1282 (by decide) ?_
      refine kk _ _ _ _ _ _ _ _ ?_ ?_ (lwI_m hI2 (by omega))
      · first | omega | (dsimp only; omega)
      · first | omega | (dsimp only; omega)
    · exact False.elim (by first | omega | (rw [hc1] at hy1; cases hy1; done) | exact hc1 hy1 | exact hy1 hc1 | (cases Option.some.inj (hc1.symm.trans hy1); first | exact hc2 hy2 | exact hy2 hc2))
    · exact False.elim (by first | omega | (rw [hc1] at hy1; cases hy1; done) | exact hc1 hy1 | exact hy1 hc1 | (cases Option.some.inj (hc1.symm.trans hy1); first | exact hc2 hy2 | exact hy2 hc2))
  · have hI1 := lwI_s (n := n) h_z hn
    rw [show zsS (zM w f j) n = zM (zsS w n) f j from rfl]
    have hs := hI1.1.2.2.2.2.1
    have hO := hI1.1.2.2.2.1
    refine r_istore5 dL_law_1240 rfl ?_
    refine r_aloadR2 dL_law_1242 ?_
    refine r_aloadR0 dL_law_1243 ?_
    refine r_iload4 dL_law_1244 ?_
    refine n_iconst dL_law_1246 (by decide) (fun r1246 e1246 => ?_)
    refine n_iadd dL_law_1247 (by omega) (fun r1247 e1247 => ?_)
    refine k_iald (k := i + 1) (v := .int (xs (i + 1))) hT_z (by omega) (by omega) (by omega) rfl dL_law_1248 ?_
    refine q_callV1 zm_RL_215 dL_law_1249 (shM_k hs) (by decide) rfl (by decide) (by first | exact Nat.le_of_ble_eq_true rfl | omega | (dsimp only; omega)) (by first | exact Nat.le_of_ble_eq_true rfl | omega | (dsimp only; omega)) (by first | exact Nat.le_of_ble_eq_true rfl | omega | (dsimp only; omega)) (by first | exact Nat.le_of_ble_eq_true rfl | omega | (dsimp only; omega)) (s_X12_perform G hs hI1.2.1 hw hI1.2.2.1 (fun hy0 r6 f2_z o6 t6 => ?_) (fun hy0 hy1 r6 f2_z o6 t6 => ?_) (fun hy0 s9 l9 hy1 r6 f2_z e6_z o6 t6 k6_z => ?_))
    · exact False.elim (by first | omega | (rw [hc1] at hy1; cases hy1; done) | exact hc1 hy1 | exact hy1 hc1 | (cases Option.some.inj (hc1.symm.trans hy1); first | exact hc2 hy2 | exact hy2 hc2))
    · have hI2 := lwI_mf hI1 (frM_su o6 (by decide) (by decide))
      refine r_istore6 dL_law_1252 rfl ?_
      refine r_aloadR2 dL_law_1254 ?_
      refine q_callV0 zm_RL_151 dL_law_1255 (shM_k hs) (by decide) rfl (by first | exact Nat.le_of_ble_eq_true rfl | omega | (dsimp only; omega)) (by first | exact Nat.le_of_ble_eq_true rfl | omega | (dsimp only; omega)) (by first | exact Nat.le_of_ble_eq_true rfl | omega | (dsimp only; omega)) (by first | exact Nat.le_of_ble_eq_true rfl | omega | (dsimp only; omega)) (by first | exact Nat.le_of_ble_eq_true rfl | omega | (dsimp only; omega)) (s_X12_thrown G hs (fun r7 e7_z => ?_))
      have e7i : r7.toInt = (f2_z (X + 239) 4).toInt := by rw [e7_z]
      refine r_iload5 dL_law_1258 ?_
      refine t_iceq (t := 1265) dL_law_1260 (by decide) (fun h1260 => ?_) (fun h1260 => False.elim (by omega))
      refine r_iload5 dL_law_1265 ?_
      refine t_ifne (t := 1282) dL_law_1267 (by decide) (fun h1267 => ?_) (fun h1267 => False.elim (by omega))
      refine r_goto (t := 2729) dL_law_1282 (by decide) ?_
      refine kk _ _ _ _ _ _ _ _ ?_ ?_ (lwI_m hI2 (by omega))
      · first | omega | (dsimp only; omega)
      · first | omega | (dsimp only; omega)
    · exact False.elim (by first | omega | (rw [hc1] at hy1; cases hy1; done) | exact hc1 hy1 | exact hy1 hc1 | (cases Option.some.inj (hc1.symm.trans hy1); first | exact hc2 hy2 | exact hy2 hc2))
  · have hC1 := lwC_st h_z.1 hq
    have hM1 := lwM_e (f2_z := f1_z) (j2 := j) h_z.2 (fun q h1 h2 => hq.2.1 q (by omega)) (fun _ _ _ => rfl)
    have hC2 := lwC_f (f2_z := f1_z) (j2 := zu j (X + 260) 0 y1) hC1 (fun _ _ => rfl) (fun e => e) (fun e => e) (fun q hq => zu_ne (by omega))
    have hM2 := lwM_e (f2_z := f1_z) (j2 := zu j (X + 260) 0 y1) hM1 (fun _ _ _ => rfl) (fun q _ h2 => zu_ne (by omega))
    have hs := hC2.2.2.2.2.1
    have hj1 : zu j (X + 260) 0 y1 (X + 260) 0 = y1 := zu_at
    obtain ⟨j1, hj⟩ : ∃ j9, j9 = zu j (X + 260) 0 y1 := ⟨_, rfl⟩
    rw [← hj] at hC2 hM2 hj1 ⊢
    have hI1 := And.intro trivial hM2
    refine r_istore5 dL_law_1240 rfl ?_
    refine r_aloadR2 dL_law_1242 ?_
    refine r_aloadR0 dL_law_1243 ?_
    refine r_iload4 dL_law_1244 ?_
    refine n_iconst dL_law_1246 (by decide) (fun r1246 e1246 => ?_)
    refine n_iadd dL_law_1247 (by omega) (fun r1247 e1247 => ?_)
    refine k_iald (k := i + 1) (v := .int (xs (i + 1))) hT_z (by omega) (by omega) (by omega) rfl dL_law_1248 ?_
    refine q_callV1 zm_RL_215 dL_law_1249 (shM_k hs) (by decide) rfl (by decide) (by first | exact Nat.le_of_ble_eq_true rfl | omega | (dsimp only; omega)) (by first | exact Nat.le_of_ble_eq_true rfl | omega | (dsimp only; omega)) (by first | exact Nat.le_of_ble_eq_true rfl | omega | (dsimp only; omega)) (by first | exact Nat.le_of_ble_eq_true rfl | omega | (dsimp only; omega)) (s_X12_perform G hs hI1.2.1 hw hI1.2.2.1 (fun hy0 r6 f2_z o6 t6 => ?_) (fun hy0 hy1 r6 f2_z o6 t6 => ?_) (fun hy0 s9 l9 hy1 r6 f2_z e6_z o6 t6 k6_z => ?_))
    · exact False.elim (by first | omega | (rw [hc1] at hy1; cases hy1; done) | exact hc1 hy1 | exact hy1 hc1 | (cases Option.some.inj (hc1.symm.trans hy1); first | exact hc2 hy2 | exact hy2 hc2))
    · exact False.elim (by first | omega | (rw [hc1] at hy1; cases hy1; done) | exact hc1 hy1 | exact hy1 hc1 | (cases Option.some.inj (hc1.symm.trans hy1); first | exact hc2 hy2 | exact hy2 hc2))
    · cases Option.some.inj (hc1.symm.trans hy1)
      have hI2 : lwI (zsP w P2) f2_z j1 X _ ty im p B th pl N := ⟨lwC_f hC2 (fun q hq => o6.1 q (by omega)) (fun e => wyI_e e (fun r h1 h2 => o6.1 _ (by omega))) (fun e => wyI_e e (fun r h1 h2 => o6.1 _ (by omega))) (fun _ _ => rfl), lwM_kn hM2 (frM_su o6 (by decide) (by decide)) k6_z⟩
      have hl2 : (j1 (X + 260) 0).toInt = y1.toInt := by rw [hj1]
      have he9 : rc.toInt = r6.toInt := by rw [ec, e6_z]
      refine r_istore6 dL_law_1252 rfl ?_
      refine r_aloadR2 dL_law_1254 ?_
      refine q_callV0 zm_RL_151 dL_law_1255 (shM_k hs) (by decide) rfl (by first | exact Nat.le_of_ble_eq_true rfl | omega | (dsimp only; omega)) (by first | exact Nat.le_of_ble_eq_true rfl | omega | (dsimp only; omega)) (by first | exact Nat.le_of_ble_eq_true rfl | omega | (dsimp only; omega)) (by first | exact Nat.le_of_ble_eq_true rfl | omega | (dsimp only; omega)) (by first | exact Nat.le_of_ble_eq_true rfl | omega | (dsimp only; omega)) (s_X12_thrown G hs (fun r7 e7_z => ?_))
      have e7i : r7.toInt = (f2_z (X + 239) 4).toInt := by rw [e7_z]
      refine r_iload5 dL_law_1258 ?_
      refine t_iceq (t := 1265) dL_law_1260 (by decide) (fun h1260 => ?_) (fun h1260 => False.elim (by omega))
      refine r_iload5 dL_law_1265 ?_
      refine t_ifne (t := 1282) dL_law_1267 (by decide) (fun h1267 => False.elim (by omega)) (fun h1267 => ?_)
      refine r_aloadR3 dL_law_1270 ?_
      refine n_iconst dL_law_1271 (by decide) (fun r1271 e1271 => ?_)
      refine m_lald (k := 0) (x := (j1 (X + 260) 0)) dL_law_1272 hO.1 hO.2 (by omega) (by omega) (rfl) ?_
      refine r_iload6 dL_law_1273 ?_
      refine n_i2l dL_law_1275 (fun r1275 e1275 => ?_)
      refine n_lcmp dL_law_1276 (fun r1276 e1276 => ?_)
      unfold zcmp at e1276
      refine t_ifeq (t := 1282) dL_law_1277 (by decide) (fun h1277 => ?_) (fun h1277 => False.elim (by omega))
      refine r_goto (t := 2729) dL_law_1282 (by decide) ?_
      refine kk _ _ _ _ _ _ _ _ ?_ ?_ (lwI_m hI2 (by omega))
      · first | omega | (dsimp only; omega)
      · first | omega | (dsimp only; omega)
