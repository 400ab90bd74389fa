/-! the law: the cases: stands -/
set_option maxHeartbeats 4000000 in
set_option maxRecDepth 100000 in
theorem lc_28 {g : zGT} {Rm : Room} {QQ : List Frame → Array Value → State → State → Prop} {hh : List (Nat × Nat × Nat × Nat)} {nm : String} {w : zW} {f : Nat → Nat → Int32} {j : Nat → Nat → Int64} {s X L i N : Nat} {xs : Nat → Int32} {T : zTb} {ty : Nat → zTy} {im : Nat → Option zTb} {p : Nat} {B : Nat → Nat} {th pl : Int} {iv : Int32} {u5 u6 u7 : Option Value} {b : Nat × Nat} (G : zGok g) (hfr : 2048 ≤ Rm.frames) (hlo : 84000 ≤ Rm.locals) (hb1 : b.1 + 951 ≤ Rm.cells) (hb2 : b.2 + 1006 ≤ Rm.slots) (hT_z : ∀ U, g.2.2.2 U → va_T .int s L (fun k => .int (xs k)) (zA g.2.2.1) U U.heap) (hi_z : iv.toInt = (i : Nat)) (hiL : i + 6 ≤ L) (hL : L ≤ 3072) (h_z : lwI w f j X T ty im p B th pl N) (hN_z : N < 1900000000)  (kk : ∀ (u5 u6 u7 : Option Value) w2 f2_z j2 b2, b2.1 ≤ b.1 + 951 → b2.2 ≤ b.2 + 1006 → lwI w2 f2_z j2 X T ty im p B th pl (N + 4) → zR (zVg g Rm QQ hh nm 8 (some .boolean)) cL_law RL 2729 [some (.ref s), some (.ref X), some (.ref (X + 239)), some (.ref (X + 260)), some (.int iv), u5, u6, u7] [] (zM w2 f2_z j2) b2) : zR (zVg g Rm QQ hh nm 8 (some .boolean)) cL_law RL 1726 [some (.ref s), some (.ref X), some (.ref (X + 239)), some (.ref (X + 260)), some (.int iv), u5, u6, u7] [] (zM w f j) b := by
  have hx := h_z.1.1
  have hX := shX_k hx
  have hO := h_z.1.2.2.2.1
  have hs := h_z.1.2.2.2.2.1
  have ht := h_z.1.2.2.2.2.2.1
  have hw := tb_wf ht
  have hS2 := h_z.1.2.1
  have hz := h_z.1.2.2.1
  refine r_aloadR1 dL_law_1726 ?_
  refine r_aloadR0 dL_law_1727 ?_
  refine r_iload4 dL_law_1728 ?_
  refine n_iconst dL_law_1730 (by decide) (fun r1730 e1730 => ?_)
  refine n_iadd dL_law_1731 (by omega) (fun r1731 e1731 => ?_)
  refine k_iald (k := i + 1) (v := .int (xs (i + 1))) hT_z (by omega) (by omega) (by omega) rfl dL_law_1732 ?_
  refine r_aloadR3 dL_law_1733 ?_
  refine q_callW (As := [.ref X, .int (xs (i + 1)), .ref (X + 260)]) (rest := []) zw_stands dL_law_1734 rfl rfl (by decide) (by first | exact Nat.le_of_ble_eq_true rfl | omega | (dsimp only; omega)) (by first | exact Nat.le_of_ble_eq_true rfl | omega | (dsimp only; omega)) (by first | exact Nat.le_of_ble_eq_true rfl | omega | (dsimp only; omega)) (by first | exact Nat.le_of_ble_eq_true rfl | omega | (dsimp only; omega)) (w_stands G hX (s_X11_stands G hx ht h_z.1.2.2.2.2.2.2.2.2.1  (fun hc0 n hn => Or.inl ⟨rfl, fun k1_z ek => ?_⟩) (fun hc0 hc1 n hn => Or.inr (Or.inl ⟨rfl, fun k1_z ek => ?_⟩)) (fun hc0 s l hc1 hc2 n hn => Or.inr (Or.inr (⟨rfl, fun k1_z ek => ?_⟩))) (fun hc0 s l hc1 hc2 rc f1_z ec hq => ⟨rc, w, f1_z, j, rfl, rfl, hO.1, hO.2, fun k1_z y1 ek ey => ?_⟩)))
  · have hI1 := lwI_s (n := n) h_z hn
    rw [show zsS (zM w f j) n = zM (zsS w n) f j from rfl]
    have hs := hI1.1.2.2.2.2.1
    have hO := hI1.1.2.2.2.1
    refine r_istore5 dL_law_1737 rfl ?_
    refine r_aloadR2 dL_law_1739 ?_
    refine r_aloadR0 dL_law_1740 ?_
    refine r_iload4 dL_law_1741 ?_
    refine n_iconst dL_law_1743 (by decide) (fun r1743 e1743 => ?_)
    refine n_iadd dL_law_1744 (by omega) (fun r1744 e1744 => ?_)
    refine k_iald (k := i + 1) (v := .int (xs (i + 1))) hT_z (by omega) (by omega) (by omega) rfl dL_law_1745 ?_
    refine q_callV1 zm_RL_243 dL_law_1746 (shM_k hs) (by decide) rfl (by decide) (by first | exact Nat.le_of_ble_eq_true rfl | omega | (dsimp only; omega)) (by first | exact Nat.le_of_ble_eq_true rfl | omega | (dsimp only; omega)) (by first | exact Nat.le_of_ble_eq_true rfl | omega | (dsimp only; omega)) (by first | exact Nat.le_of_ble_eq_true rfl | omega | (dsimp only; omega)) (s_X12_stands G hs hI1.2.1 hw hI1.2.2.2.2.1 (by have h9 := hI1.2.2.2.2.2.1; omega) hI1.2.2.1 (fun hy0 r6 f2_z j2 o6 t6 => ?_) (fun hy0 hy1 r6 f2_z j2 o6 t6 => ?_) (fun hy0 s9 l9 hy1 hy2 r6 f2_z j2 o6 t6 => ?_) (fun hy0 s9 l9 hy1 hy2 r6 f2_z j2 e6_z o6 t6 => ?_))
    · have hI2 := lwI_mq hI1 o6
      refine r_istore6 dL_law_1749 rfl ?_
      refine r_aloadR2 dL_law_1751 ?_
      refine q_callV0 zm_RL_151 dL_law_1752 (shM_k hs) (by decide) rfl (by first | exact Nat.le_of_ble_eq_true rfl | omega | (dsimp only; omega)) (by first | exact Nat.le_of_ble_eq_true rfl | omega | (dsimp only; omega)) (by first | exact Nat.le_of_ble_eq_true rfl | omega | (dsimp only; omega)) (by first | exact Nat.le_of_ble_eq_true rfl | omega | (dsimp only; omega)) (by first | exact Nat.le_of_ble_eq_true rfl | omega | (dsimp only; omega)) (s_X12_thrown G hs (fun r7 e7_z => ?_))
      have e7i : r7.toInt = (f2_z (X + 239) 4).toInt := by rw [e7_z]
      refine r_iload5 dL_law_1755 ?_
      refine t_iceq (t := 1762) dL_law_1757 (by decide) (fun h1757 => ?_) (fun h1757 => False.elim (by omega))
      refine r_iload5 dL_law_1762 ?_
      refine t_ifne (t := 1786) dL_law_1764 (by decide) (fun h1764 => ?_) (fun h1764 => False.elim (by omega))
      refine r_goto (t := 2729) dL_law_1786 (by decide) ?_
      refine kk _ _ _ _ _ _ _ ?_ ?_ (lwI_m hI2 (by omega))
      · first | omega | (dsimp only; omega)
      · first | omega | (dsimp only; omega)
    · exact False.elim (by first | omega | (rw [hc1] at hy1; cases hy1; done) | exact hc1 hy1 | exact hy1 hc1 | (cases Option.some.inj (hc1.symm.trans hy1); first | exact hc2 hy2 | exact hy2 hc2))
    · exact False.elim (by first | omega | (rw [hc1] at hy1; cases hy1; done) | exact hc1 hy1 | exact hy1 hc1 | (cases Option.some.inj (hc1.symm.trans hy1); first | exact hc2 hy2 | exact hy2 hc2))
    · exact False.elim (by first | omega | (rw [hc1] at hy1; cases hy1; done) | exact hc1 hy1 | exact hy1 hc1 | (cases Option.some.inj (hc1.symm.trans hy1); first | exact hc2 hy2 | exact hy2 hc2))
  · have hI1 := lwI_s (n := n) h_z hn
    rw [show zsS (zM w f j) n = zM (zsS w n) f j from rfl]
    have hs := hI1.1.2.2.2.2.1
    have hO := hI1.1.2.2.2.1
    refine r_istore5 dL_law_1737 rfl ?_
    refine r_aloadR2 dL_law_1739 ?_
    refine r_aloadR0 dL_law_1740 ?_
    refine r_iload4 dL_law_1741 ?_
    refine n_iconst dL_law_1743 (by decide) (fun r1743 e1743 => ?_)
    refine n_iadd dL_law_1744 (by omega) (fun r1744 e1744 => ?_)
    refine k_iald (k := i + 1) (v := .int (xs (i + 1))) hT_z (by omega) (by omega) (by omega) rfl dL_law_1745 ?_
    refine q_callV1 zm_RL_243 dL_law_1746 (shM_k hs) (by decide) rfl (by decide) (by first | exact Nat.le_of_ble_eq_true rfl | omega | (dsimp only; omega)) (by first | exact Nat.le_of_ble_eq_true rfl | omega | (dsimp only; omega)) (by first | exact Nat.le_of_ble_eq_true rfl | omega | (dsimp only; omega)) (by first | exact Nat.le_of_ble_eq_true rfl | omega | (dsimp only; omega)) (s_X12_stands G hs hI1.2.1 hw hI1.2.2.2.2.1 (by have h9 := hI1.2.2.2.2.2.1; omega) hI1.2.2.1 (fun hy0 r6 f2_z j2 o6 t6 => ?_) (fun hy0 hy1 r6 f2_z j2 o6 t6 => ?_) (fun hy0 s9 l9 hy1 hy2 r6 f2_z j2 o6 t6 => ?_) (fun hy0 s9 l9 hy1 hy2 r6 f2_z j2 e6_z o6 t6 => ?_))
    · exact False.elim (by first | omega | (rw [hc1] at hy1; cases hy1; done) | exact hc1 hy1 | exact hy1 hc1 | (cases Option.some.inj (hc1.symm.trans hy1); first | exact hc2 hy2 | exact hy2 hc2))
    · have hI2 := lwI_mq hI1 o6
      refine r_istore6 dL_law_1749 rfl ?_
      refine r_aloadR2 dL_law_1751 ?_
      refine q_callV0 zm_RL_151 dL_law_1752 (shM_k hs) (by decide) rfl (by first | exact Nat.le_of_ble_eq_true rfl | omega | (dsimp only; omega)) (by first | exact Nat.le_of_ble_eq_true rfl | omega | (dsimp only; omega)) (by first | exact Nat.le_of_ble_eq_true rfl | omega | (dsimp only; omega)) (by first | exact Nat.le_of_ble_eq_true rfl | omega | (dsimp only; omega)) (by first | exact Nat.le_of_ble_eq_true rfl | omega | (dsimp only; omega)) (s_X12_thrown G hs (fun r7 e7_z => ?_))
      have e7i : r7.toInt = (f2_z (X + 239) 4).toInt := by rw [e7_z]
      refine r_iload5 dL_law_1755 ?_
      refine t_iceq (t := 1762) dL_law_1757 (by decide) (fun h1757 => ?_) (fun h1757 => False.elim (by omega))
      refine r_iload5 dL_law_1762 ?_
      refine t_ifne (t := 1786) dL_law_1764 (by decide) (fun h1764 => ?_) (fun h1764 => False.elim (by omega))
      refine r_goto (t := 2729) dL_law_1786 (by decide) ?_
      refine kk _ _ _ _ _ _ _ ?_ ?_ (lwI_m hI2 (by omega))
      · first | omega | (dsimp only; omega)
      · first | omega | (dsimp only; omega)
    · exact False.elim (by first | omega | (rw [hc1] at hy1; cases hy1; done) | exact hc1 hy1 | exact hy1 hc1 | (cases Option.some.inj (hc1.symm.trans hy1); first | exact hc2 hy2 | exact hy2 hc2))
    · exact False.elim (by first | omega | (rw [hc1] at hy1; cases hy1; done) | exact hc1 hy1 | exact hy1 hc1 | (cases Option.some.inj (hc1.symm.trans hy1); first | exact hc2 hy2 | exact hy2 hc2))
  · have hI1 := lwI_s (n := n) h_z hn
    rw [show zsS (zM w f j) n = zM (zsS w n) f j from rfl]
    have hs := hI1.1.2.2.2.2.1
    have hO := hI1.1.2.2.2.1
    refine r_istore5 dL_law_1737 rfl ?_
    refine r_aloadR2 dL_law_1739 ?_
    refine r_aloadR0 dL_law_1740 ?_
    refine r_iload4 dL_law_1741 ?_
    refine n_iconst dL_law_1743 (by decide) (fun r1743 e1743 => ?_)
    refine n_iadd dL_law_1744 (by omega) (fun r1744 e1744 => ?_)
    refine k_iald (k := i + 1) (v := .int (xs (i + 1))) hT_z (by omega) (by omega) (by omega) rfl dL_law_1745 ?_
    refine q_callV1 zm_RL_243 dL_law_1746 (shM_k hs) (by decide) rfl (by decide) (by first | exact Nat.le_of_ble_eq_true rfl | omega | (dsimp only; omega)) (by first | exact Nat.le_of_ble_eq_true rfl | omega | (dsimp only; omega)) (by first | exact Nat.le_of_ble_eq_true rfl | omega | (dsimp only; omega)) (by first | exact Nat.le_of_ble_eq_true rfl | omega | (dsimp only; omega)) (s_X12_stands G hs hI1.2.1 hw hI1.2.2.2.2.1 (by have h9 := hI1.2.2.2.2.2.1; omega) hI1.2.2.1 (fun hy0 r6 f2_z j2 o6 t6 => ?_) (fun hy0 hy1 r6 f2_z j2 o6 t6 => ?_) (fun hy0 s9 l9 hy1 hy2 r6 f2_z j2 o6 t6 => ?_) (fun hy0 s9 l9 hy1 hy2 r6 f2_z j2 e6_z o6 t6 => ?_))
    · exact False.elim (by first | omega | (rw [hc1] at hy1; cases hy1; done) | exact hc1 hy1 | exact hy1 hc1 | (cases Option.some.inj (hc1.symm.trans hy1); first | exact hc2 hy2 | exact hy2 hc2))
    · exact False.elim (by first | omega | (rw [hc1] at hy1; cases hy1; done) | exact hc1 hy1 | exact hy1 hc1 | (cases Option.some.inj (hc1.symm.trans hy1); first | exact hc2 hy2 | exact hy2 hc2))
    · cases Option.some.inj (hc1.symm.trans hy1)
      have hI2 := lwI_mq hI1 o6
      refine r_istore6 dL_law_1749 rfl ?_
      refine r_aloadR2 dL_law_1751 ?_
      refine q_callV0 zm_RL_151 dL_law_1752 (shM_k hs) (by decide) rfl (by first | exact Nat.le_of_ble_eq_true rfl | omega | (dsimp only; omega)) (by first | exact Nat.le_of_ble_eq_true rfl | omega | (dsimp only; omega)) (by first | exact Nat.le_of_ble_eq_true rfl | omega | (dsimp only; omega)) (by first | exact Nat.le_of_ble_eq_true rfl | omega | (dsimp only; omega)) (by first | exact Nat.le_of_ble_eq_true rfl | omega | (dsimp only; omega)) (s_X12_thrown G hs (fun r7 e7_z => ?_))
      have e7i : r7.toInt = (f2_z (X + 239) 4).toInt := by rw [e7_z]
      refine r_iload5 dL_law_1755 ?_
      refine t_iceq (t := 1762) dL_law_1757 (by decide) (fun h1757 => ?_) (fun h1757 => False.elim (by omega))
      refine r_iload5 dL_law_1762 ?_
      refine t_ifne (t := 1786) dL_law_1764 (by decide) (fun h1764 => ?_) (fun h1764 => False.elim (by omega))
      refine r_goto (t := 2729) dL_law_1786 (by decide) ?_
      refine kk _ _ _ _ _ _ _ ?_ ?_ (lwI_m hI2 (by omega))
      · first | omega | (dsimp only; omega)
      · first | omega | (dsimp only; omega)
    · exact False.elim (by first | omega | (rw [hc1] at hy1; cases hy1; done) | exact hc1 hy1 | exact hy1 hc1 | (cases Option.some.inj (hc1.symm.trans hy1); first | exact hc2 hy2 | exact hy2 hc2))
  · have hI1 := lwI_o (y := y1) (lwI_cq h_z hq)
    have hs := hI1.1.2.2.2.2.1
    have hj1 : zu j (X + 260) 0 y1 (X + 260) 0 = y1 := zu_at
    obtain ⟨j1, hj⟩ : ∃ j9, j9 = zu j (X + 260) 0 y1 := ⟨_, rfl⟩
    rw [← hj] at hI1 hj1 ⊢
    refine r_istore5 dL_law_1737 rfl ?_
    refine r_aloadR2 dL_law_1739 ?_
    refine r_aloadR0 dL_law_1740 ?_
    refine r_iload4 dL_law_1741 ?_
    refine n_iconst dL_law_1743 (by decide) (fun r1743 e1743 => ?_)
    refine n_iadd dL_law_1744 (by omega) (fun r1744 e1744 => ?_)
    refine k_iald (k := i + 1) (v := .int (xs (i + 1))) hT_z (by omega) (by omega) (by omega) rfl dL_law_1745 ?_
    refine q_callV1 zm_RL_243 dL_law_1746 (shM_k hs) (by decide) rfl (by decide) (by first | exact Nat.le_of_ble_eq_true rfl | omega | (dsimp only; omega)) (by first | exact Nat.le_of_ble_eq_true rfl | omega | (dsimp only; omega)) (by first | exact Nat.le_of_ble_eq_true rfl | omega | (dsimp only; omega)) (by first | exact Nat.le_of_ble_eq_true rfl | omega | (dsimp only; omega)) (s_X12_stands G hs hI1.2.1 hw hI1.2.2.2.2.1 (by have h9 := hI1.2.2.2.2.2.1; omega) hI1.2.2.1 (fun hy0 r6 f2_z j2 o6 t6 => ?_) (fun hy0 hy1 r6 f2_z j2 o6 t6 => ?_) (fun hy0 s9 l9 hy1 hy2 r6 f2_z j2 o6 t6 => ?_) (fun hy0 s9 l9 hy1 hy2 r6 f2_z j2 e6_z o6 t6 => ?_))
    · exact False.elim (by first | omega | (rw [hc1] at hy1; cases hy1; done) | exact hc1 hy1 | exact hy1 hc1 | (cases Option.some.inj (hc1.symm.trans hy1); first | exact hc2 hy2 | exact hy2 hc2))
    · exact False.elim (by first | omega | (rw [hc1] at hy1; cases hy1; done) | exact hc1 hy1 | exact hy1 hc1 | (cases Option.some.inj (hc1.symm.trans hy1); first | exact hc2 hy2 | exact hy2 hc2))
    · exact False.elim (by first | omega | (rw [hc1] at hy1; cases hy1; done) | exact hc1 hy1 | exact hy1 hc1 | (cases Option.some.inj (hc1.symm.trans hy1); first | exact hc2 hy2 | exact hy2 hc2))
    · cases Option.some.inj (hc1.symm.trans hy1)
      have hI2 := lwI_mq hI1 o6
      have hl2 : (j2 (X + 260) 0).toInt = y1.toInt := by rw [o6.2.1 (X + 260) (by omega), hj1]
      have he9 : rc.toInt = r6.toInt := by have hst9 := eq_stands hc2; rcases ec with ⟨a9, b9⟩ | ⟨a9, b9⟩ <;> rcases e6_z with ⟨c9_z, d9⟩ | ⟨c9_z, d9⟩ <;> first | omega | exact absurd (hst9.mp b9) d9 | exact absurd (hst9.mpr d9) b9
      by_cases hb_z : r6.toInt = 0
      · have ey2 : y1.toInt = 0 := by rw [ey, if_pos (by omega)]
        refine r_istore6 dL_law_1749 rfl ?_
        refine r_aloadR2 dL_law_1751 ?_
        refine q_callV0 zm_RL_151 dL_law_1752 (shM_k hs) (by decide) rfl (by first | exact Nat.le_of_ble_eq_true rfl | omega | (dsimp only; omega)) (by first | exact Nat.le_of_ble_eq_true rfl | omega | (dsimp only; omega)) (by first | exact Nat.le_of_ble_eq_true rfl | omega | (dsimp only; omega)) (by first | exact Nat.le_of_ble_eq_true rfl | omega | (dsimp only; omega)) (by first | exact Nat.le_of_ble_eq_true rfl | omega | (dsimp only; omega)) (s_X12_thrown G hs (fun r7 e7_z => ?_))
        have e7i : r7.toInt = (f2_z (X + 239) 4).toInt := by rw [e7_z]
        refine r_iload5 dL_law_1755 ?_
        refine t_iceq (t := 1762) dL_law_1757 (by decide) (fun h1757 => ?_) (fun h1757 => False.elim (by omega))
        refine r_iload5 dL_law_1762 ?_
        refine t_ifne (t := 1786) dL_law_1764 (by decide) (fun h1764 => False.elim (by omega)) (fun h1764 => ?_)
        refine r_aloadR3 dL_law_1767 ?_
        refine n_iconst dL_law_1768 (by decide) (fun r1768 e1768 => ?_)
        refine m_lald (k := 0) (x := (j2 (X + 260) 0)) dL_law_1769 hO.1 hO.2 (by omega) (by omega) (rfl) ?_
        refine r_iload6 dL_law_1770 ?_
        refine t_ifeq (t := 1779) dL_law_1772 (by decide) (fun h1772 => ?_) (fun h1772 => False.elim (by omega))
        refine n_lconst (q := 0) dL_law_1779 rfl (by decide) (fun r1779 e1779 => ?_)
        refine n_lcmp dL_law_1780 (fun r1780 e1780 => ?_)
        unfold zcmp at e1780
        refine t_ifeq (t := 1786) dL_law_1781 (by decide) (fun h1781 => ?_) (fun h1781 => False.elim (by omega))
        refine r_goto (t := 2729) dL_law_1786 (by decide) ?_
        refine kk _ _ _ _ _ _ _ ?_ ?_ (lwI_m hI2 (by omega))
        · first | omega | (dsimp only; omega)
        · first | omega | (dsimp only; omega)
      · have ey2 : y1.toInt = 1 := by rw [ey, if_neg (by omega)]
        refine r_istore6 dL_law_1749 rfl ?_
        refine r_aloadR2 dL_law_1751 ?_
        refine q_callV0 zm_RL_151 dL_law_1752 (shM_k hs) (by decide) rfl (by first | exact Nat.le_of_ble_eq_true rfl | omega | (dsimp only; omega)) (by first | exact Nat.le_of_ble_eq_true rfl | omega | (dsimp only; omega)) (by first | exact Nat.le_of_ble_eq_true rfl | omega | (dsimp only; omega)) (by first | exact Nat.le_of_ble_eq_true rfl | omega | (dsimp only; omega)) (by first | exact Nat.le_of_ble_eq_true rfl | omega | (dsimp only; omega)) (s_X12_thrown G hs (fun r7 e7_z => ?_))
        have e7i : r7.toInt = (f2_z (X + 239) 4).toInt := by rw [e7_z]
        refine r_iload5 dL_law_1755 ?_
        refine t_iceq (t := 1762) dL_law_1757 (by decide) (fun h1757 => ?_) (fun h1757 => False.elim (by omega))
        refine r_iload5 dL_law_1762 ?_
        refine t_ifne (t := 1786) dL_law_1764 (by decide) (fun h1764 => False.elim (by omega)) (fun h1764 => ?_)
        refine r_aloadR3 dL_law_1767 ?_
        refine n_iconst dL_law_1768 (by decide) (fun r1768 e1768 => ?_)
        refine m_lald (k := 0) (x := (j2 (X + 260) 0)) dL_law_1769 hO.1 hO.2 (by omega) (by omega) (rfl) ?_
        refine r_iload6 dL_law_1770 ?_
        refine t_ifeq (t := 1779) dL_law_1772 (by decide) (fun h1772 => False.elim (by omega)) (fun h1772 => ?_)
        refine n_lconst (q := 1) dL_law_1775 rfl (by decide) (fun r1775 e1775 => ?_)
        refine r_goto (t := 1780) dL_law_1776 (by decide) ?_
        refine n_lcmp dL_law_1780 (fun r1780 e1780 => ?_)
        unfold zcmp at e1780
        refine t_ifeq (t := 1786) dL_law_1781 (by decide) (fun h1781 => ?_) (fun h1781 => False.elim (by omega))
        refine r_goto (t := 2729) dL_law_1786 (by decide) ?_
        refine kk _ _ _ _ _ _ _ ?_ ?_ (lwI_m hI2 (by omega))
        · first | omega | (dsimp only; omega)
        · first | omega | (dsimp only; omega)
