/-! the class's Reader: a line, the whole text -/
set_option maxHeartbeats 4000000 in
set_option maxRecDepth 100000 in
theorem s_X5_readLine {g : zGT} {w : zW} {f : Nat → Nat → Int32} {j : Nat → Nat → Int64} {A tq nq : Nat} {v : Option Nat} {B : Nat → Nat} {n : Nat} {ca wa wv : Nat → Nat} {kq ta sm gq gv : Nat} {p : Nat} {t : zNl} {bs : Nat} {Q : Option Value → zW → Prop} {QX : String → zW → Prop} (G : zGok g) (hr : shRd w A tq nq) (kw : kWd g wa wv kq) (ko : kWo g ca wa wv ta sm gq gv) (htp : tpR B n f A tq) (htk : tkR ca B n f v A p) (hln : p < n) (hg : nlG n (0, p, t)) (hrd : rdN w f nq t) (hq2 : A + 21 ≤ nq) (hbs : (lnP B n t p).2.1 ≤ p + bs) (hQ0 : (lnP B n t p).1 ≠ 0 → ∀ (b : Int32) w2 v2 f2_z j2, b.toInt = 0 → grX A nq w w2 → frX A nq (zS w) f f2_z j j2 → flR f2_z A (lnP B n t p).1 (lnP B n t p).2.1 → Q (some (.int b)) (zM (wW w2 A v2) f2_z j2)) (hQ : (lnP B n t p).1 = 0 → ∀ (b : Int32) w2 v2 f2_z j2, b.toInt = 1 → grX A nq w w2 → frX A nq (zS w) f f2_z j j2 → tkR ca B n f2_z v2 A (lnP B n t p).2.1 → rdN w2 f2_z nq (lnP B n t p).2.2 → Q (some (.int b)) (zM (wW w2 A v2) f2_z j2)) : zC g 72 yX5_readLine cX5_readLine 2 (some .boolean) [.ref A] (zM (wW w A v) f j) (1, bs) Q QX := by
  refine zC_of G (by decide +kernel) (Nat.le_of_ble_eq_true rfl) ?_
  have ht := shRd_t hr
  have hpn := htk.1
  have h900 := htp.2.1
  have hl9 : t.1.1 ≤ 900 := Nat.le_trans hg.2.2.1 (Nat.le_trans hpn h900)
  have hl4 : t.1.2.2.length ≤ 4 := hg.2.2.2.2.1
  have h4 := htk.2.2.2.1
  have hsq := hrd.2.2.1
  have hna := hrd.1
  have hne : nq ≠ A := by omega
  have hwl := wd_le (B := B) (n := n) (s := p)
  by_cases h3 : tkP B n p ≠ 3
  · have hv : (lnP B n t p) = (baP B n p, p, t) := if_neg h3
    rw [hv] at hQ0
    refine r_aloadR0 dX5_readLine_0 ?_
    refine m_getV (x := (f A 4)) zf_RX5_25 rfl dX5_readLine_1 hr.1 (rfl) ?_
    refine n_iconst dX5_readLine_4 (by decide) (fun r4 e4_z => ?_)
    refine t_iceq (t := 13) dX5_readLine_5 (by decide) (fun h5 => False.elim (by omega)) (fun h5 => ?_)
    refine r_aloadR0 dX5_readLine_8 ?_
    refine q_callV0 zm_RX5_80 dX5_readLine_9 hr.1 (by decide) rfl (by first | exact Nat.le_of_ble_eq_true rfl | (dsimp only [zV, zVh, zVg, zrm]; omega) | omega) (by first | exact Nat.le_of_ble_eq_true rfl | (dsimp only [zV, zVh, zVg, zrm]; omega) | omega) (by first | exact Nat.le_of_ble_eq_true rfl | (dsimp only [zV, zVh, zVg, zrm]; omega) | omega) (by first | exact Nat.le_of_ble_eq_true rfl | (dsimp only [zV, zVh, zVg, zrm]; omega) | omega) (by first | exact Nat.le_of_ble_eq_true rfl | (dsimp only [zV, zVh, zVg, zrm]; omega) | omega) (s_X5_refuseToken G hr htk (fun r9 g9 e9_z o9 l9 => ?_))
    refine m_zret dX5_readLine_12 rfl (by omega) (by first | exact Nat.le_of_ble_eq_true rfl | (dsimp only [zV, zVh, zVg, zrm]; omega) | omega) (by first | exact Nat.le_of_ble_eq_true rfl | (dsimp only [zV, zVh, zVg, zrm]; omega) | omega) ?_
    exact hQ0 ba_bd.1 _ w _ g9 j e9_z grX_rf (frX_M (frM_su o9 (by decide) (by decide))) l9
  have h3 : tkP B n p = 3 := Decidable.byContradiction h3
  have hv3 := htk.2.2.2.2.2.1 h3
  have hkw := ko.2.2.2.2.1 (wdP B n p) (by omega)
  by_cases hw : wdP B n p = 0
  · have hv0 : (lnP B n t p) = ceP B n t p := (if_pos h3).trans (if_pos hw)
    have hsm : (smI (wdP B n p)).toInt = 1 := by rw [hw]; rfl
    refine r_aloadR0 dX5_readLine_0 ?_
    refine m_getV (x := (f A 4)) zf_RX5_25 rfl dX5_readLine_1 hr.1 (rfl) ?_
    refine n_iconst dX5_readLine_4 (by decide) (fun r4 e4_z => ?_)
    refine t_iceq (t := 13) dX5_readLine_5 (by decide) (fun h5 => ?_) (fun h5 => False.elim (by omega))
    refine k_gets ko.2.2.2.2.2.1 zg_RX5_83 dX5_readLine_13 ?_
    refine r_aloadR0 dX5_readLine_16 ?_
    refine m_getR (q := (ca (wdP B n p))) zf_RX5_37 rfl dX5_readLine_17 hr.1 (zu_at.trans hv3) ?_
    refine k_ord G dX5_readLine_20 (fun U hU => (hkw U hU).1) (fun U hU => (hkw U hU).2.2.2) (by first | exact Nat.le_of_ble_eq_true rfl | (dsimp only [zV, zVh, zVg, zrm]; omega) | omega) (by first | exact Nat.le_of_ble_eq_true rfl | (dsimp only [zV, zVh, zVg, zrm]; omega) | omega) (by first | exact Nat.le_of_ble_eq_true rfl | (dsimp only [zV, zVh, zVg, zrm]; omega) | omega) (by first | exact Nat.le_of_ble_eq_true rfl | (dsimp only [zV, zVh, zVg, zrm]; omega) | omega) (by first | exact Nat.le_of_ble_eq_true rfl | (dsimp only [zV, zVh, zVg, zrm]; omega) | omega) ?_
    refine k_iald (k := wdP B n p) (v := .int (smI (wdP B n p))) ko.2.2.2.2.2.2.1 (zi_n (by omega)) (by omega) (by decide) rfl dX5_readLine_23 ?_
    refine n_tabC (k := 1) (t := 60) dX5_readLine_24 (by decide) rfl (by decide) (fun h24 => ?_) (fun h24 => False.elim (h24 (by omega)))
    refine r_aloadR0 dX5_readLine_60 ?_
    refine q_callV0 zm_RX5_92 dX5_readLine_61 hr.1 (by decide) rfl (by first | exact Nat.le_of_ble_eq_true rfl | (dsimp only [zV, zVh, zVg, zrm]; omega) | omega) (by first | exact Nat.le_of_ble_eq_true rfl | (dsimp only [zV, zVh, zVg, zrm]; omega) | omega) (by first | exact Nat.le_of_ble_eq_true rfl | (dsimp only [zV, zVh, zVg, zrm]; omega) | omega) (by first | exact Nat.le_of_ble_eq_true rfl | (dsimp only [zV, zVh, zVg, zrm]; omega) | omega) (by first | exact Nat.le_of_ble_eq_true rfl | (dsimp only [zV, zVh, zVg, zrm]; omega) | omega) (s_X5_readCell G hr kw ko htp htk hg hna hrd.2.1 hq2 h3 (fun rc vc gc e q dc fc lc ec vv => ?_) (fun rc vc gc q N dc fc tc cc nc vv => ?_))
    · refine r_istore1 dX5_readLine_64 rfl ?_
      refine r_goto (t := 93) dX5_readLine_65 (by decide) ?_
      refine r_iload1 dX5_readLine_93 ?_
      rw [hv0, vv] at hQ0
      refine t_ifeq (t := 106) dX5_readLine_94 (by decide) (fun h94 => ?_) (fun h94 => False.elim (by omega))
      refine n_iconst dX5_readLine_106 (by decide) (fun r106 e106 => ?_)
      refine m_zret dX5_readLine_107 rfl (by omega) (by first | exact Nat.le_of_ble_eq_true rfl | (dsimp only [zV, zVh, zVg, zrm]; omega) | omega) (by first | exact Nat.le_of_ble_eq_true rfl | (dsimp only [zV, zVh, zVg, zrm]; omega) | omega) ?_
      exact hQ0 ec _ w vc gc j e106 grX_rf fc lc
    · refine r_istore1 dX5_readLine_64 rfl ?_
      refine r_goto (t := 93) dX5_readLine_65 (by decide) ?_
      refine r_iload1 dX5_readLine_93 ?_
      have rdc : rdN w gc nq (N, t.2) := rdN_f hrd cc (fun q h1 h2 => fc.1 q h2 (by omega) (by omega) (by omega) (by omega) (by omega))
      have htc := tpR_X htp fc ht (by omega) hq2
      by_cases h59 : tkP B n q = 59
      · have hfv : (fiP B n (N, t.2) q) = (0, nxP B n q, (((N, t.2).1.1 + 1, (N, t.2).1.2.1, (N, t.2).1.2.2), (N, t.2).2)) := if_pos h59
        have hv : (lnP B n t p) = (fiP B n (N, t.2) q) := hv0.trans vv
        rw [hv, hfv] at hQ
        refine t_ifeq (t := 106) dX5_readLine_94 (by decide) (fun h94 => False.elim (by omega)) (fun h94 => ?_)
        refine r_aloadR0 dX5_readLine_97 ?_
        refine n_bipush dX5_readLine_98 (by decide) (fun r98 e98_z => ?_)
        refine q_callV1 zm_RX5_102 dX5_readLine_100 hr.1 (by decide) rfl (by first | exact Nat.le_of_ble_eq_true rfl | (dsimp only [zV, zVh, zVg, zrm]; omega) | omega) (by first | exact Nat.le_of_ble_eq_true rfl | (dsimp only [zV, zVh, zVg, zrm]; omega) | omega) (by first | exact Nat.le_of_ble_eq_true rfl | (dsimp only [zV, zVh, zVg, zrm]; omega) | omega) (by first | exact Nat.le_of_ble_eq_true rfl | (dsimp only [zV, zVh, zVg, zrm]; omega) | omega) (by first | exact Nat.le_of_ble_eq_true rfl | (dsimp only [zV, zVh, zVg, zrm]; omega) | omega) (s_X5_takeSign (s := q) (c := 59) G hr kw ko htc e98_z tc (fun r100 v100 g100 o100 a100 b100 => ?_))
        obtain ⟨d100, t100⟩ := a100 h59
        refine t_ifne (t := 108) dX5_readLine_103 (by decide) (fun h103 => ?_) (fun h103 => False.elim (by omega))
        refine r_aloadR0 dX5_readLine_108 ?_
        have nc2 : (N, t.2).1.1 = t.1.1 := nc
        have g0 : g100 nq = gc nq := o100.1 nq (Or.inr hq2)
        have l0 : (g100 nq 0).toInt = ((N, t.2).1.1 : Nat) := by rw [g0, rdc.2.1.1]; exact zi_n (by omega)
        refine m_getR (q := nq) zf_RX5_43 rfl dX5_readLine_109 (shRd_k hr) (shRd_p7 hr) ?_
        refine r_dup dX5_readLine_112 rfl ?_
        refine m_getV (x := (g100 nq 0)) zf_RX5_106 rfl dX5_readLine_113 (show zK w nq = 4 from rdc.1.1) rfl ?_
        refine n_iconst dX5_readLine_116 (by decide) (fun r116 e116 => ?_)
        refine n_iadd dX5_readLine_117 (by omega) (fun r117 e117_z => ?_)
        refine m_putI zf_RX5_106 (by intro C T N h_z; cases h_z; rfl) rfl dX5_readLine_118 (show zK w nq = 4 from rdc.1.1) ?_
        obtain ⟨g118, hg118⟩ : ∃ g9, g9 = zu g100 nq 0 r117 := ⟨_, rfl⟩
        rw [← hg118]
        have eg1 : ∀ q, q ≠ nq → g118 q = g100 q := by intro q hq; rw [hg118]; exact zu_ne hq
        refine n_iconst dX5_readLine_121 (by decide) (fun r121 e121 => ?_)
        refine m_zret dX5_readLine_122 rfl (by omega) (by first | exact Nat.le_of_ble_eq_true rfl | (dsimp only [zV, zVh, zVg, zrm]; omega) | omega) (by first | exact Nat.le_of_ble_eq_true rfl | (dsimp only [zV, zVh, zVg, zrm]; omega) | omega) ?_
        have hct9 : ctNa g118 nq ((N, t.2).1.1 + 1, (N, t.2).1.2.1, (N, t.2).1.2.2) := by
          rw [hg118]
          exact ctNa_line (N := (N, t.2).1) (ctNa_of rdc.2.1 g0 (o100.1 _ (Or.inr (by omega))) (o100.1 _ (Or.inr (by omega)))) (zi_of (show r117.toInt = (((N, t.2).1.1 + 1 : Nat) : Int) by omega) (by omega))
        have hfx9 : frX A nq (zS w) f g118 j j := frX_tr fc (frX_tr (frX_M (frM_su o100 (by decide) (by decide))) (show frX A nq (zS w) g100 g118 j j from ⟨fun q _ _ _ h9 _ _ => eg1 q h9, by rw [eg1 A (by omega)], fun _ _ => rfl⟩) (Nat.le_refl _)) (Nat.le_refl _)
        exact hQ rfl _ w v100 g118 j e121 grX_rf hfx9 (tkR_n t100 (eg1 A (by omega))) (rdN_f rdc hct9 (fun q h1 h2 => by rw [eg1 q (by omega)]; exact o100.1 q (Or.inr (by omega))))
      · have hfv : (fiP B n (N, t.2) q) = (baP B n q, q, (N, t.2)) := if_neg h59
        have hv : (lnP B n t p) = (fiP B n (N, t.2) q) := hv0.trans vv
        rw [hv, hfv] at hQ0
        refine t_ifeq (t := 106) dX5_readLine_94 (by decide) (fun h94 => False.elim (by omega)) (fun h94 => ?_)
        refine r_aloadR0 dX5_readLine_97 ?_
        refine n_bipush dX5_readLine_98 (by decide) (fun r98 e98_z => ?_)
        refine q_callV1 zm_RX5_102 dX5_readLine_100 hr.1 (by decide) rfl (by first | exact Nat.le_of_ble_eq_true rfl | (dsimp only [zV, zVh, zVg, zrm]; omega) | omega) (by first | exact Nat.le_of_ble_eq_true rfl | (dsimp only [zV, zVh, zVg, zrm]; omega) | omega) (by first | exact Nat.le_of_ble_eq_true rfl | (dsimp only [zV, zVh, zVg, zrm]; omega) | omega) (by first | exact Nat.le_of_ble_eq_true rfl | (dsimp only [zV, zVh, zVg, zrm]; omega) | omega) (by first | exact Nat.le_of_ble_eq_true rfl | (dsimp only [zV, zVh, zVg, zrm]; omega) | omega) (s_X5_takeSign (s := q) (c := 59) G hr kw ko htc e98_z tc (fun r100 v100 g100 o100 a100 b100 => ?_))
        obtain ⟨d100, l100⟩ := b100 h59
        refine t_ifne (t := 108) dX5_readLine_103 (by decide) (fun h103 => False.elim (by omega)) (fun h103 => ?_)
        refine n_iconst dX5_readLine_106 (by decide) (fun r106 e106 => ?_)
        refine m_zret dX5_readLine_107 rfl (by omega) (by first | exact Nat.le_of_ble_eq_true rfl | (dsimp only [zV, zVh, zVg, zrm]; omega) | omega) (by first | exact Nat.le_of_ble_eq_true rfl | (dsimp only [zV, zVh, zVg, zrm]; omega) | omega) ?_
        exact hQ0 ba_bd.1 _ w v100 g100 j e106 grX_rf (frX_tr fc (frX_M (frM_su o100 (by decide) (by decide))) (Nat.le_refl _)) l100
  by_cases hw : wdP B n p = 2
  · have hv0 : (lnP B n t p) = guP B n t p := (if_pos h3).trans ((if_neg (by omega)).trans (if_pos hw))
    have hsm : (smI (wdP B n p)).toInt = 2 := by rw [hw]; rfl
    refine r_aloadR0 dX5_readLine_0 ?_
    refine m_getV (x := (f A 4)) zf_RX5_25 rfl dX5_readLine_1 hr.1 (rfl) ?_
    refine n_iconst dX5_readLine_4 (by decide) (fun r4 e4_z => ?_)
    refine t_iceq (t := 13) dX5_readLine_5 (by decide) (fun h5 => ?_) (fun h5 => False.elim (by omega))
    refine k_gets ko.2.2.2.2.2.1 zg_RX5_83 dX5_readLine_13 ?_
    refine r_aloadR0 dX5_readLine_16 ?_
    refine m_getR (q := (ca (wdP B n p))) zf_RX5_37 rfl dX5_readLine_17 hr.1 (zu_at.trans hv3) ?_
    refine k_ord G dX5_readLine_20 (fun U hU => (hkw U hU).1) (fun U hU => (hkw U hU).2.2.2) (by first | exact Nat.le_of_ble_eq_true rfl | (dsimp only [zV, zVh, zVg, zrm]; omega) | omega) (by first | exact Nat.le_of_ble_eq_true rfl | (dsimp only [zV, zVh, zVg, zrm]; omega) | omega) (by first | exact Nat.le_of_ble_eq_true rfl | (dsimp only [zV, zVh, zVg, zrm]; omega) | omega) (by first | exact Nat.le_of_ble_eq_true rfl | (dsimp only [zV, zVh, zVg, zrm]; omega) | omega) (by first | exact Nat.le_of_ble_eq_true rfl | (dsimp only [zV, zVh, zVg, zrm]; omega) | omega) ?_
    refine k_iald (k := wdP B n p) (v := .int (smI (wdP B n p))) ko.2.2.2.2.2.2.1 (zi_n (by omega)) (by omega) (by decide) rfl dX5_readLine_23 ?_
    refine n_tabC (k := 2) (t := 68) dX5_readLine_24 (by decide) rfl (by decide) (fun h24 => ?_) (fun h24 => False.elim (h24 (by omega)))
    refine r_aloadR0 dX5_readLine_68 ?_
    refine q_callV0 zm_RX5_95 dX5_readLine_69 hr.1 (by decide) rfl (by first | exact Nat.le_of_ble_eq_true rfl | (dsimp only [zV, zVh, zVg, zrm]; omega) | omega) (by first | exact Nat.le_of_ble_eq_true rfl | (dsimp only [zV, zVh, zVg, zrm]; omega) | omega) (by first | exact Nat.le_of_ble_eq_true rfl | (dsimp only [zV, zVh, zVg, zrm]; omega) | omega) (by first | exact Nat.le_of_ble_eq_true rfl | (dsimp only [zV, zVh, zVg, zrm]; omega) | omega) (by first | exact Nat.le_of_ble_eq_true rfl | (dsimp only [zV, zVh, zVg, zrm]; omega) | omega) (s_X5_readGuest G hr kw ko htp htk hg hna hrd.2.1 hq2 h3 (fun rc vc gc e q dc fc lc ec vv => ?_) (fun rc vc gc q N dc fc tc cc nc vv => ?_))
    · refine r_istore1 dX5_readLine_72 rfl ?_
      refine r_goto (t := 93) dX5_readLine_73 (by decide) ?_
      refine r_iload1 dX5_readLine_93 ?_
      rw [hv0, vv] at hQ0
      refine t_ifeq (t := 106) dX5_readLine_94 (by decide) (fun h94 => ?_) (fun h94 => False.elim (by omega))
      refine n_iconst dX5_readLine_106 (by decide) (fun r106 e106 => ?_)
      refine m_zret dX5_readLine_107 rfl (by omega) (by first | exact Nat.le_of_ble_eq_true rfl | (dsimp only [zV, zVh, zVg, zrm]; omega) | omega) (by first | exact Nat.le_of_ble_eq_true rfl | (dsimp only [zV, zVh, zVg, zrm]; omega) | omega) ?_
      exact hQ0 ec _ w vc gc j e106 grX_rf fc lc
    · refine r_istore1 dX5_readLine_72 rfl ?_
      refine r_goto (t := 93) dX5_readLine_73 (by decide) ?_
      refine r_iload1 dX5_readLine_93 ?_
      have rdc : rdN w gc nq (N, t.2) := rdN_f hrd cc (fun q h1 h2 => fc.1 q h2 (by omega) (by omega) (by omega) (by omega) (by omega))
      have htc := tpR_X htp fc ht (by omega) hq2
      by_cases h59 : tkP B n q = 59
      · have hfv : (fiP B n (N, t.2) q) = (0, nxP B n q, (((N, t.2).1.1 + 1, (N, t.2).1.2.1, (N, t.2).1.2.2), (N, t.2).2)) := if_pos h59
        have hv : (lnP B n t p) = (fiP B n (N, t.2) q) := hv0.trans vv
        rw [hv, hfv] at hQ
        refine t_ifeq (t := 106) dX5_readLine_94 (by decide) (fun h94 => False.elim (by omega)) (fun h94 => ?_)
        refine r_aloadR0 dX5_readLine_97 ?_
        refine n_bipush dX5_readLine_98 (by decide) (fun r98 e98_z => ?_)
        refine q_callV1 zm_RX5_102 dX5_readLine_100 hr.1 (by decide) rfl (by first | exact Nat.le_of_ble_eq_true rfl | (dsimp only [zV, zVh, zVg, zrm]; omega) | omega) (by first | exact Nat.le_of_ble_eq_true rfl | (dsimp only [zV, zVh, zVg, zrm]; omega) | omega) (by first | exact Nat.le_of_ble_eq_true rfl | (dsimp only [zV, zVh, zVg, zrm]; omega) | omega) (by first | exact Nat.le_of_ble_eq_true rfl | (dsimp only [zV, zVh, zVg, zrm]; omega) | omega) (by first | exact Nat.le_of_ble_eq_true rfl | (dsimp only [zV, zVh, zVg, zrm]; omega) | omega) (s_X5_takeSign (s := q) (c := 59) G hr kw ko htc e98_z tc (fun r100 v100 g100 o100 a100 b100 => ?_))
        obtain ⟨d100, t100⟩ := a100 h59
        refine t_ifne (t := 108) dX5_readLine_103 (by decide) (fun h103 => ?_) (fun h103 => False.elim (by omega))
        refine r_aloadR0 dX5_readLine_108 ?_
        have nc2 : (N, t.2).1.1 = t.1.1 := nc
        have g0 : g100 nq = gc nq := o100.1 nq (Or.inr hq2)
        have l0 : (g100 nq 0).toInt = ((N, t.2).1.1 : Nat) := by rw [g0, rdc.2.1.1]; exact zi_n (by omega)
        refine m_getR (q := nq) zf_RX5_43 rfl dX5_readLine_109 (shRd_k hr) (shRd_p7 hr) ?_
        refine r_dup dX5_readLine_112 rfl ?_
        refine m_getV (x := (g100 nq 0)) zf_RX5_106 rfl dX5_readLine_113 (show zK w nq = 4 from rdc.1.1) rfl ?_
        refine n_iconst dX5_readLine_116 (by decide) (fun r116 e116 => ?_)
        refine n_iadd dX5_readLine_117 (by omega) (fun r117 e117_z => ?_)
        refine m_putI zf_RX5_106 (by intro C T N h_z; cases h_z; rfl) rfl dX5_readLine_118 (show zK w nq = 4 from rdc.1.1) ?_
        obtain ⟨g118, hg118⟩ : ∃ g9, g9 = zu g100 nq 0 r117 := ⟨_, rfl⟩
        rw [← hg118]
        have eg1 : ∀ q, q ≠ nq → g118 q = g100 q := by intro q hq; rw [hg118]; exact zu_ne hq
        refine n_iconst dX5_readLine_121 (by decide) (fun r121 e121 => ?_)
        refine m_zret dX5_readLine_122 rfl (by omega) (by first | exact Nat.le_of_ble_eq_true rfl | (dsimp only [zV, zVh, zVg, zrm]; omega) | omega) (by first | exact Nat.le_of_ble_eq_true rfl | (dsimp only [zV, zVh, zVg, zrm]; omega) | omega) ?_
        have hct9 : ctNa g118 nq ((N, t.2).1.1 + 1, (N, t.2).1.2.1, (N, t.2).1.2.2) := by
          rw [hg118]
          exact ctNa_line (N := (N, t.2).1) (ctNa_of rdc.2.1 g0 (o100.1 _ (Or.inr (by omega))) (o100.1 _ (Or.inr (by omega)))) (zi_of (show r117.toInt = (((N, t.2).1.1 + 1 : Nat) : Int) by omega) (by omega))
        have hfx9 : frX A nq (zS w) f g118 j j := frX_tr fc (frX_tr (frX_M (frM_su o100 (by decide) (by decide))) (show frX A nq (zS w) g100 g118 j j from ⟨fun q _ _ _ h9 _ _ => eg1 q h9, by rw [eg1 A (by omega)], fun _ _ => rfl⟩) (Nat.le_refl _)) (Nat.le_refl _)
        exact hQ rfl _ w v100 g118 j e121 grX_rf hfx9 (tkR_n t100 (eg1 A (by omega))) (rdN_f rdc hct9 (fun q h1 h2 => by rw [eg1 q (by omega)]; exact o100.1 q (Or.inr (by omega))))
      · have hfv : (fiP B n (N, t.2) q) = (baP B n q, q, (N, t.2)) := if_neg h59
        have hv : (lnP B n t p) = (fiP B n (N, t.2) q) := hv0.trans vv
        rw [hv, hfv] at hQ0
        refine t_ifeq (t := 106) dX5_readLine_94 (by decide) (fun h94 => False.elim (by omega)) (fun h94 => ?_)
        refine r_aloadR0 dX5_readLine_97 ?_
        refine n_bipush dX5_readLine_98 (by decide) (fun r98 e98_z => ?_)
        refine q_callV1 zm_RX5_102 dX5_readLine_100 hr.1 (by decide) rfl (by first | exact Nat.le_of_ble_eq_true rfl | (dsimp only [zV, zVh, zVg, zrm]; omega) | omega) (by first | exact Nat.le_of_ble_eq_true rfl | (dsimp only [zV, zVh, zVg, zrm]; omega) | omega) (by first | exact Nat.le_of_ble_eq_true rfl | (dsimp only [zV, zVh, zVg, zrm]; omega) | omega) (by first | exact Nat.le_of_ble_eq_true rfl | (dsimp only [zV, zVh, zVg, zrm]; omega) | omega) (by first | exact Nat.le_of_ble_eq_true rfl | (dsimp only [zV, zVh, zVg, zrm]; omega) | omega) (s_X5_takeSign (s := q) (c := 59) G hr kw ko htc e98_z tc (fun r100 v100 g100 o100 a100 b100 => ?_))
        obtain ⟨d100, l100⟩ := b100 h59
        refine t_ifne (t := 108) dX5_readLine_103 (by decide) (fun h103 => False.elim (by omega)) (fun h103 => ?_)
        refine n_iconst dX5_readLine_106 (by decide) (fun r106 e106 => ?_)
        refine m_zret dX5_readLine_107 rfl (by omega) (by first | exact Nat.le_of_ble_eq_true rfl | (dsimp only [zV, zVh, zVg, zrm]; omega) | omega) (by first | exact Nat.le_of_ble_eq_true rfl | (dsimp only [zV, zVh, zVg, zrm]; omega) | omega) ?_
        exact hQ0 ba_bd.1 _ w v100 g100 j e106 grX_rf (frX_tr fc (frX_M (frM_su o100 (by decide) (by decide))) (Nat.le_refl _)) l100
  by_cases hw : wdP B n p = 3
  · have hv0 : (lnP B n t p) = laP B n 3 t p := (if_pos h3).trans ((if_neg (by omega)).trans ((if_neg (by omega)).trans ((if_pos (by omega)).trans (by rw [hw]))))
    have hsm : (smI (wdP B n p)).toInt = 3 := by rw [hw]; rfl
    have hbs2 : tkP B n (nxP B n p) = 58 → (lwP B n 3 (nxP B n (nxP B n p))).1 = 0 → (lwP B n 3 (nxP B n (nxP B n p))).2.2.length ≤ bs := by
      intro h58 hq
      have hnx := nxP_gt (B := B) hln
      have hnx2 := nxP_gt (B := B) (n := n) (s := nxP B n p) (tk_lt (by rw [h58]; decide))
      obtain ⟨y1, y2, y3⟩ := lw_gt (B := B) (n := n) (i := 3) hnx2.2 hq
      have hge := fi_ge (B := B) (n := n) (s := (lwP B n 3 (nxP B n (nxP B n p))).2.1) (t := stL 3 t (lwP B n 3 (nxP B n (nxP B n p))).2.2)
      have hv9 : (lnP B n t p) = fiP B n (stL 3 t (lwP B n 3 (nxP B n (nxP B n p))).2.2) (lwP B n 3 (nxP B n (nxP B n p))).2.1 := hv0.trans ((if_pos h58).trans (if_neg (not_not_intro hq)))
      rw [hv9] at hbs
      omega
    refine r_aloadR0 dX5_readLine_0 ?_
    refine m_getV (x := (f A 4)) zf_RX5_25 rfl dX5_readLine_1 hr.1 (rfl) ?_
    refine n_iconst dX5_readLine_4 (by decide) (fun r4 e4_z => ?_)
    refine t_iceq (t := 13) dX5_readLine_5 (by decide) (fun h5 => ?_) (fun h5 => False.elim (by omega))
    refine k_gets ko.2.2.2.2.2.1 zg_RX5_83 dX5_readLine_13 ?_
    refine r_aloadR0 dX5_readLine_16 ?_
    refine m_getR (q := (ca (wdP B n p))) zf_RX5_37 rfl dX5_readLine_17 hr.1 (zu_at.trans hv3) ?_
    refine k_ord G dX5_readLine_20 (fun U hU => (hkw U hU).1) (fun U hU => (hkw U hU).2.2.2) (by first | exact Nat.le_of_ble_eq_true rfl | (dsimp only [zV, zVh, zVg, zrm]; omega) | omega) (by first | exact Nat.le_of_ble_eq_true rfl | (dsimp only [zV, zVh, zVg, zrm]; omega) | omega) (by first | exact Nat.le_of_ble_eq_true rfl | (dsimp only [zV, zVh, zVg, zrm]; omega) | omega) (by first | exact Nat.le_of_ble_eq_true rfl | (dsimp only [zV, zVh, zVg, zrm]; omega) | omega) (by first | exact Nat.le_of_ble_eq_true rfl | (dsimp only [zV, zVh, zVg, zrm]; omega) | omega) ?_
    refine k_iald (k := wdP B n p) (v := .int (smI (wdP B n p))) ko.2.2.2.2.2.2.1 (zi_n (by omega)) (by omega) (by decide) rfl dX5_readLine_23 ?_
    refine n_tabC (k := 3) (t := 76) dX5_readLine_24 (by decide) rfl (by decide) (fun h24 => ?_) (fun h24 => False.elim (h24 (by omega)))
    refine r_aloadR0 dX5_readLine_76 ?_
    refine r_aloadR0 dX5_readLine_77 ?_
    refine m_getR (q := (ca (wdP B n p))) zf_RX5_37 rfl dX5_readLine_78 hr.1 (zu_at.trans hv3) ?_
    rw [hw]
    refine q_callV1 zm_RX5_98 dX5_readLine_81 hr.1 (by decide) rfl (by first | exact Nat.le_of_ble_eq_true rfl | (dsimp only [zV, zVh, zVg, zrm]; omega) | omega) (by first | exact Nat.le_of_ble_eq_true rfl | (dsimp only [zV, zVh, zVg, zrm]; omega) | omega) (by first | exact Nat.le_of_ble_eq_true rfl | (dsimp only [zV, zVh, zVg, zrm]; omega) | omega) (by first | exact Nat.le_of_ble_eq_true rfl | (dsimp only [zV, zVh, zVg, zrm]; omega) | omega) (by first | exact Nat.le_of_ble_eq_true rfl | (dsimp only [zV, zVh, zVg, zrm]; omega) | omega) (s_X5_readLaw_3 (bs := bs) G hr kw ko htp htk hln hrd hq2 hbs2 (fun rc vc gc e q dc fc lc ec vv => ?_) (fun rc wc vc gc jc q c dc hgr fc tc rdc vv => ?_))
    · refine r_istore1 dX5_readLine_84 rfl ?_
      refine r_goto (t := 93) dX5_readLine_85 (by decide) ?_
      refine r_iload1 dX5_readLine_93 ?_
      rw [hv0, vv] at hQ0
      refine t_ifeq (t := 106) dX5_readLine_94 (by decide) (fun h94 => ?_) (fun h94 => False.elim (by omega))
      refine n_iconst dX5_readLine_106 (by decide) (fun r106 e106 => ?_)
      refine m_zret dX5_readLine_107 rfl (by omega) (by first | exact Nat.le_of_ble_eq_true rfl | (dsimp only [zV, zVh, zVg, zrm]; omega) | omega) (by first | exact Nat.le_of_ble_eq_true rfl | (dsimp only [zV, zVh, zVg, zrm]; omega) | omega) ?_
      exact hQ0 ec _ w vc gc j e106 grX_rf fc lc
    · refine r_istore1 dX5_readLine_84 rfl ?_
      refine r_goto (t := 93) dX5_readLine_85 (by decide) ?_
      refine r_iload1 dX5_readLine_93 ?_
      have htc := tpR_X htp fc ht (by omega) hq2
      have hrc := shRd_X hr hgr hq2 hsq
      have nc : (stL 3 t c).1.1 = t.1.1 := rfl
      by_cases h59 : tkP B n q = 59
      · have hfv : (fiP B n (stL 3 t c) q) = (0, nxP B n q, (((stL 3 t c).1.1 + 1, (stL 3 t c).1.2.1, (stL 3 t c).1.2.2), (stL 3 t c).2)) := if_pos h59
        have hv : (lnP B n t p) = (fiP B n (stL 3 t c) q) := hv0.trans vv
        rw [hv, hfv] at hQ
        refine t_ifeq (t := 106) dX5_readLine_94 (by decide) (fun h94 => False.elim (by omega)) (fun h94 => ?_)
        refine r_aloadR0 dX5_readLine_97 ?_
        refine n_bipush dX5_readLine_98 (by decide) (fun r98 e98_z => ?_)
        refine q_callV1 zm_RX5_102 dX5_readLine_100 hrc.1 (by decide) rfl (by first | exact Nat.le_of_ble_eq_true rfl | (dsimp only [zV, zVh, zVg, zrm]; omega) | omega) (by first | exact Nat.le_of_ble_eq_true rfl | (dsimp only [zV, zVh, zVg, zrm]; omega) | omega) (by first | exact Nat.le_of_ble_eq_true rfl | (dsimp only [zV, zVh, zVg, zrm]; omega) | omega) (by first | exact Nat.le_of_ble_eq_true rfl | (dsimp only [zV, zVh, zVg, zrm]; omega) | omega) (by first | exact Nat.le_of_ble_eq_true rfl | (dsimp only [zV, zVh, zVg, zrm]; omega) | omega) (s_X5_takeSign (s := q) (c := 59) G hrc kw ko htc e98_z tc (fun r100 v100 g100 o100 a100 b100 => ?_))
        obtain ⟨d100, t100⟩ := a100 h59
        refine t_ifne (t := 108) dX5_readLine_103 (by decide) (fun h103 => ?_) (fun h103 => False.elim (by omega))
        refine r_aloadR0 dX5_readLine_108 ?_
        have nc2 : (stL 3 t c).1.1 = t.1.1 := nc
        have g0 : g100 nq = gc nq := o100.1 nq (Or.inr hq2)
        have l0 : (g100 nq 0).toInt = ((stL 3 t c).1.1 : Nat) := by rw [g0, rdc.2.1.1]; exact zi_n (by omega)
        refine m_getR (q := nq) zf_RX5_43 rfl dX5_readLine_109 (shRd_k hrc) (shRd_p7 hrc) ?_
        refine r_dup dX5_readLine_112 rfl ?_
        refine m_getV (x := (g100 nq 0)) zf_RX5_106 rfl dX5_readLine_113 (show zK wc nq = 4 from rdc.1.1) rfl ?_
        refine n_iconst dX5_readLine_116 (by decide) (fun r116 e116 => ?_)
        refine n_iadd dX5_readLine_117 (by omega) (fun r117 e117_z => ?_)
        refine m_putI zf_RX5_106 (by intro C T N h_z; cases h_z; rfl) rfl dX5_readLine_118 (show zK wc nq = 4 from rdc.1.1) ?_
        obtain ⟨g118, hg118⟩ : ∃ g9, g9 = zu g100 nq 0 r117 := ⟨_, rfl⟩
        rw [← hg118]
        have eg1 : ∀ q, q ≠ nq → g118 q = g100 q := by intro q hq; rw [hg118]; exact zu_ne hq
        refine n_iconst dX5_readLine_121 (by decide) (fun r121 e121 => ?_)
        refine m_zret dX5_readLine_122 rfl (by omega) (by first | exact Nat.le_of_ble_eq_true rfl | (dsimp only [zV, zVh, zVg, zrm]; omega) | omega) (by first | exact Nat.le_of_ble_eq_true rfl | (dsimp only [zV, zVh, zVg, zrm]; omega) | omega) ?_
        have hct9 : ctNa g118 nq ((stL 3 t c).1.1 + 1, (stL 3 t c).1.2.1, (stL 3 t c).1.2.2) := by
          rw [hg118]
          exact ctNa_line (N := (stL 3 t c).1) (ctNa_of rdc.2.1 g0 (o100.1 _ (Or.inr (by omega))) (o100.1 _ (Or.inr (by omega)))) (zi_of (show r117.toInt = (((stL 3 t c).1.1 + 1 : Nat) : Int) by omega) (by omega))
        have hfx9 : frX A nq (zS w) f g118 j jc := frX_tr fc (frX_tr (frX_M (frM_su o100 (by decide) (by decide))) (show frX A nq (zS w) g100 g118 jc jc from ⟨fun q _ _ _ h9 _ _ => eg1 q h9, by rw [eg1 A (by omega)], fun _ _ => rfl⟩) (Nat.le_refl _)) (Nat.le_refl _)
        exact hQ rfl _ wc v100 g118 jc e121 hgr hfx9 (tkR_n t100 (eg1 A (by omega))) (rdN_f rdc hct9 (fun q h1 h2 => by rw [eg1 q (by omega)]; exact o100.1 q (Or.inr (by omega))))
      · have hfv : (fiP B n (stL 3 t c) q) = (baP B n q, q, (stL 3 t c)) := if_neg h59
        have hv : (lnP B n t p) = (fiP B n (stL 3 t c) q) := hv0.trans vv
        rw [hv, hfv] at hQ0
        refine t_ifeq (t := 106) dX5_readLine_94 (by decide) (fun h94 => False.elim (by omega)) (fun h94 => ?_)
        refine r_aloadR0 dX5_readLine_97 ?_
        refine n_bipush dX5_readLine_98 (by decide) (fun r98 e98_z => ?_)
        refine q_callV1 zm_RX5_102 dX5_readLine_100 hrc.1 (by decide) rfl (by first | exact Nat.le_of_ble_eq_true rfl | (dsimp only [zV, zVh, zVg, zrm]; omega) | omega) (by first | exact Nat.le_of_ble_eq_true rfl | (dsimp only [zV, zVh, zVg, zrm]; omega) | omega) (by first | exact Nat.le_of_ble_eq_true rfl | (dsimp only [zV, zVh, zVg, zrm]; omega) | omega) (by first | exact Nat.le_of_ble_eq_true rfl | (dsimp only [zV, zVh, zVg, zrm]; omega) | omega) (by first | exact Nat.le_of_ble_eq_true rfl | (dsimp only [zV, zVh, zVg, zrm]; omega) | omega) (s_X5_takeSign (s := q) (c := 59) G hrc kw ko htc e98_z tc (fun r100 v100 g100 o100 a100 b100 => ?_))
        obtain ⟨d100, l100⟩ := b100 h59
        refine t_ifne (t := 108) dX5_readLine_103 (by decide) (fun h103 => False.elim (by omega)) (fun h103 => ?_)
        refine n_iconst dX5_readLine_106 (by decide) (fun r106 e106 => ?_)
        refine m_zret dX5_readLine_107 rfl (by omega) (by first | exact Nat.le_of_ble_eq_true rfl | (dsimp only [zV, zVh, zVg, zrm]; omega) | omega) (by first | exact Nat.le_of_ble_eq_true rfl | (dsimp only [zV, zVh, zVg, zrm]; omega) | omega) ?_
        exact hQ0 ba_bd.1 _ wc v100 g100 jc e106 hgr (frX_tr fc (frX_M (frM_su o100 (by decide) (by decide))) (Nat.le_refl _)) l100
  by_cases hw : wdP B n p = 4
  · have hv0 : (lnP B n t p) = laP B n 4 t p := (if_pos h3).trans ((if_neg (by omega)).trans ((if_neg (by omega)).trans ((if_pos (by omega)).trans (by rw [hw]))))
    have hsm : (smI (wdP B n p)).toInt = 4 := by rw [hw]; rfl
    have hbs2 : tkP B n (nxP B n p) = 58 → (lwP B n 4 (nxP B n (nxP B n p))).1 = 0 → (lwP B n 4 (nxP B n (nxP B n p))).2.2.length ≤ bs := by
      intro h58 hq
      have hnx := nxP_gt (B := B) hln
      have hnx2 := nxP_gt (B := B) (n := n) (s := nxP B n p) (tk_lt (by rw [h58]; decide))
      obtain ⟨y1, y2, y3⟩ := lw_gt (B := B) (n := n) (i := 4) hnx2.2 hq
      have hge := fi_ge (B := B) (n := n) (s := (lwP B n 4 (nxP B n (nxP B n p))).2.1) (t := stL 4 t (lwP B n 4 (nxP B n (nxP B n p))).2.2)
      have hv9 : (lnP B n t p) = fiP B n (stL 4 t (lwP B n 4 (nxP B n (nxP B n p))).2.2) (lwP B n 4 (nxP B n (nxP B n p))).2.1 := hv0.trans ((if_pos h58).trans (if_neg (not_not_intro hq)))
      rw [hv9] at hbs
      omega
    refine r_aloadR0 dX5_readLine_0 ?_
    refine m_getV (x := (f A 4)) zf_RX5_25 rfl dX5_readLine_1 hr.1 (rfl) ?_
    refine n_iconst dX5_readLine_4 (by decide) (fun r4 e4_z => ?_)
    refine t_iceq (t := 13) dX5_readLine_5 (by decide) (fun h5 => ?_) (fun h5 => False.elim (by omega))
    refine k_gets ko.2.2.2.2.2.1 zg_RX5_83 dX5_readLine_13 ?_
    refine r_aloadR0 dX5_readLine_16 ?_
    refine m_getR (q := (ca (wdP B n p))) zf_RX5_37 rfl dX5_readLine_17 hr.1 (zu_at.trans hv3) ?_
    refine k_ord G dX5_readLine_20 (fun U hU => (hkw U hU).1) (fun U hU => (hkw U hU).2.2.2) (by first | exact Nat.le_of_ble_eq_true rfl | (dsimp only [zV, zVh, zVg, zrm]; omega) | omega) (by first | exact Nat.le_of_ble_eq_true rfl | (dsimp only [zV, zVh, zVg, zrm]; omega) | omega) (by first | exact Nat.le_of_ble_eq_true rfl | (dsimp only [zV, zVh, zVg, zrm]; omega) | omega) (by first | exact Nat.le_of_ble_eq_true rfl | (dsimp only [zV, zVh, zVg, zrm]; omega) | omega) (by first | exact Nat.le_of_ble_eq_true rfl | (dsimp only [zV, zVh, zVg, zrm]; omega) | omega) ?_
    refine k_iald (k := wdP B n p) (v := .int (smI (wdP B n p))) ko.2.2.2.2.2.2.1 (zi_n (by omega)) (by omega) (by decide) rfl dX5_readLine_23 ?_
    refine n_tabC (k := 4) (t := 76) dX5_readLine_24 (by decide) rfl (by decide) (fun h24 => ?_) (fun h24 => False.elim (h24 (by omega)))
    refine r_aloadR0 dX5_readLine_76 ?_
    refine r_aloadR0 dX5_readLine_77 ?_
    refine m_getR (q := (ca (wdP B n p))) zf_RX5_37 rfl dX5_readLine_78 hr.1 (zu_at.trans hv3) ?_
    rw [hw]
    refine q_callV1 zm_RX5_98 dX5_readLine_81 hr.1 (by decide) rfl (by first | exact Nat.le_of_ble_eq_true rfl | (dsimp only [zV, zVh, zVg, zrm]; omega) | omega) (by first | exact Nat.le_of_ble_eq_true rfl | (dsimp only [zV, zVh, zVg, zrm]; omega) | omega) (by first | exact Nat.le_of_ble_eq_true rfl | (dsimp only [zV, zVh, zVg, zrm]; omega) | omega) (by first | exact Nat.le_of_ble_eq_true rfl | (dsimp only [zV, zVh, zVg, zrm]; omega) | omega) (by first | exact Nat.le_of_ble_eq_true rfl | (dsimp only [zV, zVh, zVg, zrm]; omega) | omega) (s_X5_readLaw_4 (bs := bs) G hr kw ko htp htk hln hrd hq2 hbs2 (fun rc vc gc e q dc fc lc ec vv => ?_) (fun rc wc vc gc jc q c dc hgr fc tc rdc vv => ?_))
    · refine r_istore1 dX5_readLine_84 rfl ?_
      refine r_goto (t := 93) dX5_readLine_85 (by decide) ?_
      refine r_iload1 dX5_readLine_93 ?_
      rw [hv0, vv] at hQ0
      refine t_ifeq (t := 106) dX5_readLine_94 (by decide) (fun h94 => ?_) (fun h94 => False.elim (by omega))
      refine n_iconst dX5_readLine_106 (by decide) (fun r106 e106 => ?_)
      refine m_zret dX5_readLine_107 rfl (by omega) (by first | exact Nat.le_of_ble_eq_true rfl | (dsimp only [zV, zVh, zVg, zrm]; omega) | omega) (by first | exact Nat.le_of_ble_eq_true rfl | (dsimp only [zV, zVh, zVg, zrm]; omega) | omega) ?_
      exact hQ0 ec _ w vc gc j e106 grX_rf fc lc
    · refine r_istore1 dX5_readLine_84 rfl ?_
      refine r_goto (t := 93) dX5_readLine_85 (by decide) ?_
      refine r_iload1 dX5_readLine_93 ?_
      have htc := tpR_X htp fc ht (by omega) hq2
      have hrc := shRd_X hr hgr hq2 hsq
      have nc : (stL 4 t c).1.1 = t.1.1 := rfl
      by_cases h59 : tkP B n q = 59
      · have hfv : (fiP B n (stL 4 t c) q) = (0, nxP B n q, (((stL 4 t c).1.1 + 1, (stL 4 t c).1.2.1, (stL 4 t c).1.2.2), (stL 4 t c).2)) := if_pos h59
        have hv : (lnP B n t p) = (fiP B n (stL 4 t c) q) := hv0.trans vv
        rw [hv, hfv] at hQ
        refine t_ifeq (t := 106) dX5_readLine_94 (by decide) (fun h94 => False.elim (by omega)) (fun h94 => ?_)
        refine r_aloadR0 dX5_readLine_97 ?_
        refine n_bipush dX5_readLine_98 (by decide) (fun r98 e98_z => ?_)
        refine q_callV1 zm_RX5_102 dX5_readLine_100 hrc.1 (by decide) rfl (by first | exact Nat.le_of_ble_eq_true rfl | (dsimp only [zV, zVh, zVg, zrm]; omega) | omega) (by first | exact Nat.le_of_ble_eq_true rfl | (dsimp only [zV, zVh, zVg, zrm]; omega) | omega) (by first | exact Nat.le_of_ble_eq_true rfl | (dsimp only [zV, zVh, zVg, zrm]; omega) | omega) (by first | exact Nat.le_of_ble_eq_true rfl | (dsimp only [zV, zVh, zVg, zrm]; omega) | omega) (by first | exact Nat.le_of_ble_eq_true rfl | (dsimp only [zV, zVh, zVg, zrm]; omega) | omega) (s_X5_takeSign (s := q) (c := 59) G hrc kw ko htc e98_z tc (fun r100 v100 g100 o100 a100 b100 => ?_))
        obtain ⟨d100, t100⟩ := a100 h59
        refine t_ifne (t := 108) dX5_readLine_103 (by decide) (fun h103 => ?_) (fun h103 => False.elim (by omega))
        refine r_aloadR0 dX5_readLine_108 ?_
        have nc2 : (stL 4 t c).1.1 = t.1.1 := nc
        have g0 : g100 nq = gc nq := o100.1 nq (Or.inr hq2)
        have l0 : (g100 nq 0).toInt = ((stL 4 t c).1.1 : Nat) := by rw [g0, rdc.2.1.1]; exact zi_n (by omega)
        refine m_getR (q := nq) zf_RX5_43 rfl dX5_readLine_109 (shRd_k hrc) (shRd_p7 hrc) ?_
        refine r_dup dX5_readLine_112 rfl ?_
        refine m_getV (x := (g100 nq 0)) zf_RX5_106 rfl dX5_readLine_113 (show zK wc nq = 4 from rdc.1.1) rfl ?_
        refine n_iconst dX5_readLine_116 (by decide) (fun r116 e116 => ?_)
        refine n_iadd dX5_readLine_117 (by omega) (fun r117 e117_z => ?_)
        refine m_putI zf_RX5_106 (by intro C T N h_z; cases h_z; rfl) rfl dX5_readLine_118 (show zK wc nq = 4 from rdc.1.1) ?_
        obtain ⟨g118, hg118⟩ : ∃ g9, g9 = zu g100 nq 0 r117 := ⟨_, rfl⟩
        rw [← hg118]
        have eg1 : ∀ q, q ≠ nq → g118 q = g100 q := by intro q hq; rw [hg118]; exact zu_ne hq
        refine n_iconst dX5_readLine_121 (by decide) (fun r121 e121 => ?_)
        refine m_zret dX5_readLine_122 rfl (by omega) (by first | exact Nat.le_of_ble_eq_true rfl | (dsimp only [zV, zVh, zVg, zrm]; omega) | omega) (by first | exact Nat.le_of_ble_eq_true rfl | (dsimp only [zV, zVh, zVg, zrm]; omega) | omega) ?_
        have hct9 : ctNa g118 nq ((stL 4 t c).1.1 + 1, (stL 4 t c).1.2.1, (stL 4 t c).1.2.2) := by
          rw [hg118]
          exact ctNa_line (N := (stL 4 t c).1) (ctNa_of rdc.2.1 g0 (o100.1 _ (Or.inr (by omega))) (o100.1 _ (Or.inr (by omega)))) (zi_of (show r117.toInt = (((stL 4 t c).1.1 + 1 : Nat) : Int) by omega) (by omega))
        have hfx9 : frX A nq (zS w) f g118 j jc := frX_tr fc (frX_tr (frX_M (frM_su o100 (by decide) (by decide))) (show frX A nq (zS w) g100 g118 jc jc from ⟨fun q _ _ _ h9 _ _ => eg1 q h9, by rw [eg1 A (by omega)], fun _ _ => rfl⟩) (Nat.le_refl _)) (Nat.le_refl _)
        exact hQ rfl _ wc v100 g118 jc e121 hgr hfx9 (tkR_n t100 (eg1 A (by omega))) (rdN_f rdc hct9 (fun q h1 h2 => by rw [eg1 q (by omega)]; exact o100.1 q (Or.inr (by omega))))
      · have hfv : (fiP B n (stL 4 t c) q) = (baP B n q, q, (stL 4 t c)) := if_neg h59
        have hv : (lnP B n t p) = (fiP B n (stL 4 t c) q) := hv0.trans vv
        rw [hv, hfv] at hQ0
        refine t_ifeq (t := 106) dX5_readLine_94 (by decide) (fun h94 => False.elim (by omega)) (fun h94 => ?_)
        refine r_aloadR0 dX5_readLine_97 ?_
        refine n_bipush dX5_readLine_98 (by decide) (fun r98 e98_z => ?_)
        refine q_callV1 zm_RX5_102 dX5_readLine_100 hrc.1 (by decide) rfl (by first | exact Nat.le_of_ble_eq_true rfl | (dsimp only [zV, zVh, zVg, zrm]; omega) | omega) (by first | exact Nat.le_of_ble_eq_true rfl | (dsimp only [zV, zVh, zVg, zrm]; omega) | omega) (by first | exact Nat.le_of_ble_eq_true rfl | (dsimp only [zV, zVh, zVg, zrm]; omega) | omega) (by first | exact Nat.le_of_ble_eq_true rfl | (dsimp only [zV, zVh, zVg, zrm]; omega) | omega) (by first | exact Nat.le_of_ble_eq_true rfl | (dsimp only [zV, zVh, zVg, zrm]; omega) | omega) (s_X5_takeSign (s := q) (c := 59) G hrc kw ko htc e98_z tc (fun r100 v100 g100 o100 a100 b100 => ?_))
        obtain ⟨d100, l100⟩ := b100 h59
        refine t_ifne (t := 108) dX5_readLine_103 (by decide) (fun h103 => False.elim (by omega)) (fun h103 => ?_)
        refine n_iconst dX5_readLine_106 (by decide) (fun r106 e106 => ?_)
        refine m_zret dX5_readLine_107 rfl (by omega) (by first | exact Nat.le_of_ble_eq_true rfl | (dsimp only [zV, zVh, zVg, zrm]; omega) | omega) (by first | exact Nat.le_of_ble_eq_true rfl | (dsimp only [zV, zVh, zVg, zrm]; omega) | omega) ?_
        exact hQ0 ba_bd.1 _ wc v100 g100 jc e106 hgr (frX_tr fc (frX_M (frM_su o100 (by decide) (by decide))) (Nat.le_refl _)) l100
  by_cases hw : wdP B n p = 5
  · have hv0 : (lnP B n t p) = laP B n 5 t p := (if_pos h3).trans ((if_neg (by omega)).trans ((if_neg (by omega)).trans ((if_pos (by omega)).trans (by rw [hw]))))
    have hsm : (smI (wdP B n p)).toInt = 5 := by rw [hw]; rfl
    have hbs2 : tkP B n (nxP B n p) = 58 → (lwP B n 5 (nxP B n (nxP B n p))).1 = 0 → (lwP B n 5 (nxP B n (nxP B n p))).2.2.length ≤ bs := by
      intro h58 hq
      have hnx := nxP_gt (B := B) hln
      have hnx2 := nxP_gt (B := B) (n := n) (s := nxP B n p) (tk_lt (by rw [h58]; decide))
      obtain ⟨y1, y2, y3⟩ := lw_gt (B := B) (n := n) (i := 5) hnx2.2 hq
      have hge := fi_ge (B := B) (n := n) (s := (lwP B n 5 (nxP B n (nxP B n p))).2.1) (t := stL 5 t (lwP B n 5 (nxP B n (nxP B n p))).2.2)
      have hv9 : (lnP B n t p) = fiP B n (stL 5 t (lwP B n 5 (nxP B n (nxP B n p))).2.2) (lwP B n 5 (nxP B n (nxP B n p))).2.1 := hv0.trans ((if_pos h58).trans (if_neg (not_not_intro hq)))
      rw [hv9] at hbs
      omega
    refine r_aloadR0 dX5_readLine_0 ?_
    refine m_getV (x := (f A 4)) zf_RX5_25 rfl dX5_readLine_1 hr.1 (rfl) ?_
    refine n_iconst dX5_readLine_4 (by decide) (fun r4 e4_z => ?_)
    refine t_iceq (t := 13) dX5_readLine_5 (by decide) (fun h5 => ?_) (fun h5 => False.elim (by omega))
    refine k_gets ko.2.2.2.2.2.1 zg_RX5_83 dX5_readLine_13 ?_
    refine r_aloadR0 dX5_readLine_16 ?_
    refine m_getR (q := (ca (wdP B n p))) zf_RX5_37 rfl dX5_readLine_17 hr.1 (zu_at.trans hv3) ?_
    refine k_ord G dX5_readLine_20 (fun U hU => (hkw U hU).1) (fun U hU => (hkw U hU).2.2.2) (by first | exact Nat.le_of_ble_eq_true rfl | (dsimp only [zV, zVh, zVg, zrm]; omega) | omega) (by first | exact Nat.le_of_ble_eq_true rfl | (dsimp only [zV, zVh, zVg, zrm]; omega) | omega) (by first | exact Nat.le_of_ble_eq_true rfl | (dsimp only [zV, zVh, zVg, zrm]; omega) | omega) (by first | exact Nat.le_of_ble_eq_true rfl | (dsimp only [zV, zVh, zVg, zrm]; omega) | omega) (by first | exact Nat.le_of_ble_eq_true rfl | (dsimp only [zV, zVh, zVg, zrm]; omega) | omega) ?_
    refine k_iald (k := wdP B n p) (v := .int (smI (wdP B n p))) ko.2.2.2.2.2.2.1 (zi_n (by omega)) (by omega) (by decide) rfl dX5_readLine_23 ?_
    refine n_tabC (k := 5) (t := 76) dX5_readLine_24 (by decide) rfl (by decide) (fun h24 => ?_) (fun h24 => False.elim (h24 (by omega)))
    refine r_aloadR0 dX5_readLine_76 ?_
    refine r_aloadR0 dX5_readLine_77 ?_
    refine m_getR (q := (ca (wdP B n p))) zf_RX5_37 rfl dX5_readLine_78 hr.1 (zu_at.trans hv3) ?_
    rw [hw]
    refine q_callV1 zm_RX5_98 dX5_readLine_81 hr.1 (by decide) rfl (by first | exact Nat.le_of_ble_eq_true rfl | (dsimp only [zV, zVh, zVg, zrm]; omega) | omega) (by first | exact Nat.le_of_ble_eq_true rfl | (dsimp only [zV, zVh, zVg, zrm]; omega) | omega) (by first | exact Nat.le_of_ble_eq_true rfl | (dsimp only [zV, zVh, zVg, zrm]; omega) | omega) (by first | exact Nat.le_of_ble_eq_true rfl | (dsimp only [zV, zVh, zVg, zrm]; omega) | omega) (by first | exact Nat.le_of_ble_eq_true rfl | (dsimp only [zV, zVh, zVg, zrm]; omega) | omega) (s_X5_readLaw_5 (bs := bs) G hr kw ko htp htk hln hrd hq2 hbs2 (fun rc vc gc e q dc fc lc ec vv => ?_) (fun rc wc vc gc jc q c dc hgr fc tc rdc vv => ?_))
    · refine r_istore1 dX5_readLine_84 rfl ?_
      refine r_goto (t := 93) dX5_readLine_85 (by decide) ?_
      refine r_iload1 dX5_readLine_93 ?_
      rw [hv0, vv] at hQ0
      refine t_ifeq (t := 106) dX5_readLine_94 (by decide) (fun h94 => ?_) (fun h94 => False.elim (by omega))
      refine n_iconst dX5_readLine_106 (by decide) (fun r106 e106 => ?_)
      refine m_zret dX5_readLine_107 rfl (by omega) (by first | exact Nat.le_of_ble_eq_true rfl | (dsimp only [zV, zVh, zVg, zrm]; omega) | omega) (by first | exact Nat.le_of_ble_eq_true rfl | (dsimp only [zV, zVh, zVg, zrm]; omega) | omega) ?_
      exact hQ0 ec _ w vc gc j e106 grX_rf fc lc
    · refine r_istore1 dX5_readLine_84 rfl ?_
      refine r_goto (t := 93) dX5_readLine_85 (by decide) ?_
      refine r_iload1 dX5_readLine_93 ?_
      have htc := tpR_X htp fc ht (by omega) hq2
      have hrc := shRd_X hr hgr hq2 hsq
      have nc : (stL 5 t c).1.1 = t.1.1 := rfl
      by_cases h59 : tkP B n q = 59
      · have hfv : (fiP B n (stL 5 t c) q) = (0, nxP B n q, (((stL 5 t c).1.1 + 1, (stL 5 t c).1.2.1, (stL 5 t c).1.2.2), (stL 5 t c).2)) := if_pos h59
        have hv : (lnP B n t p) = (fiP B n (stL 5 t c) q) := hv0.trans vv
        rw [hv, hfv] at hQ
        refine t_ifeq (t := 106) dX5_readLine_94 (by decide) (fun h94 => False.elim (by omega)) (fun h94 => ?_)
        refine r_aloadR0 dX5_readLine_97 ?_
        refine n_bipush dX5_readLine_98 (by decide) (fun r98 e98_z => ?_)
        refine q_callV1 zm_RX5_102 dX5_readLine_100 hrc.1 (by decide) rfl (by first | exact Nat.le_of_ble_eq_true rfl | (dsimp only [zV, zVh, zVg, zrm]; omega) | omega) (by first | exact Nat.le_of_ble_eq_true rfl | (dsimp only [zV, zVh, zVg, zrm]; omega) | omega) (by first | exact Nat.le_of_ble_eq_true rfl | (dsimp only [zV, zVh, zVg, zrm]; omega) | omega) (by first | exact Nat.le_of_ble_eq_true rfl | (dsimp only [zV, zVh, zVg, zrm]; omega) | omega) (by first | exact Nat.le_of_ble_eq_true rfl | (dsimp only [zV, zVh, zVg, zrm]; omega) | omega) (s_X5_takeSign (s := q) (c := 59) G hrc kw ko htc e98_z tc (fun r100 v100 g100 o100 a100 b100 => ?_))
        obtain ⟨d100, t100⟩ := a100 h59
        refine t_ifne (t := 108) dX5_readLine_103 (by decide) (fun h103 => ?_) (fun h103 => False.elim (by omega))
        refine r_aloadR0 dX5_readLine_108 ?_
        have nc2 : (stL 5 t c).1.1 = t.1.1 := nc
        have g0 : g100 nq = gc nq := o100.1 nq (Or.inr hq2)
        have l0 : (g100 nq 0).toInt = ((stL 5 t c).1.1 : Nat) := by rw [g0, rdc.2.1.1]; exact zi_n (by omega)
        refine m_getR (q := nq) zf_RX5_43 rfl dX5_readLine_109 (shRd_k hrc) (shRd_p7 hrc) ?_
        refine r_dup dX5_readLine_112 rfl ?_
        refine m_getV (x := (g100 nq 0)) zf_RX5_106 rfl dX5_readLine_113 (show zK wc nq = 4 from rdc.1.1) rfl ?_
        refine n_iconst dX5_readLine_116 (by decide) (fun r116 e116 => ?_)
        refine n_iadd dX5_readLine_117 (by omega) (fun r117 e117_z => ?_)
        refine m_putI zf_RX5_106 (by intro C T N h_z; cases h_z; rfl) rfl dX5_readLine_118 (show zK wc nq = 4 from rdc.1.1) ?_
        obtain ⟨g118, hg118⟩ : ∃ g9, g9 = zu g100 nq 0 r117 := ⟨_, rfl⟩
        rw [← hg118]
        have eg1 : ∀ q, q ≠ nq → g118 q = g100 q := by intro q hq; rw [hg118]; exact zu_ne hq
        refine n_iconst dX5_readLine_121 (by decide) (fun r121 e121 => ?_)
        refine m_zret dX5_readLine_122 rfl (by omega) (by first | exact Nat.le_of_ble_eq_true rfl | (dsimp only [zV, zVh, zVg, zrm]; omega) | omega) (by first | exact Nat.le_of_ble_eq_true rfl | (dsimp only [zV, zVh, zVg, zrm]; omega) | omega) ?_
        have hct9 : ctNa g118 nq ((stL 5 t c).1.1 + 1, (stL 5 t c).1.2.1, (stL 5 t c).1.2.2) := by
          rw [hg118]
          exact ctNa_line (N := (stL 5 t c).1) (ctNa_of rdc.2.1 g0 (o100.1 _ (Or.inr (by omega))) (o100.1 _ (Or.inr (by omega)))) (zi_of (show r117.toInt = (((stL 5 t c).1.1 + 1 : Nat) : Int) by omega) (by omega))
        have hfx9 : frX A nq (zS w) f g118 j jc := frX_tr fc (frX_tr (frX_M (frM_su o100 (by decide) (by decide))) (show frX A nq (zS w) g100 g118 jc jc from ⟨fun q _ _ _ h9 _ _ => eg1 q h9, by rw [eg1 A (by omega)], fun _ _ => rfl⟩) (Nat.le_refl _)) (Nat.le_refl _)
        exact hQ rfl _ wc v100 g118 jc e121 hgr hfx9 (tkR_n t100 (eg1 A (by omega))) (rdN_f rdc hct9 (fun q h1 h2 => by rw [eg1 q (by omega)]; exact o100.1 q (Or.inr (by omega))))
      · have hfv : (fiP B n (stL 5 t c) q) = (baP B n q, q, (stL 5 t c)) := if_neg h59
        have hv : (lnP B n t p) = (fiP B n (stL 5 t c) q) := hv0.trans vv
        rw [hv, hfv] at hQ0
        refine t_ifeq (t := 106) dX5_readLine_94 (by decide) (fun h94 => False.elim (by omega)) (fun h94 => ?_)
        refine r_aloadR0 dX5_readLine_97 ?_
        refine n_bipush dX5_readLine_98 (by decide) (fun r98 e98_z => ?_)
        refine q_callV1 zm_RX5_102 dX5_readLine_100 hrc.1 (by decide) rfl (by first | exact Nat.le_of_ble_eq_true rfl | (dsimp only [zV, zVh, zVg, zrm]; omega) | omega) (by first | exact Nat.le_of_ble_eq_true rfl | (dsimp only [zV, zVh, zVg, zrm]; omega) | omega) (by first | exact Nat.le_of_ble_eq_true rfl | (dsimp only [zV, zVh, zVg, zrm]; omega) | omega) (by first | exact Nat.le_of_ble_eq_true rfl | (dsimp only [zV, zVh, zVg, zrm]; omega) | omega) (by first | exact Nat.le_of_ble_eq_true rfl | (dsimp only [zV, zVh, zVg, zrm]; omega) | omega) (s_X5_takeSign (s := q) (c := 59) G hrc kw ko htc e98_z tc (fun r100 v100 g100 o100 a100 b100 => ?_))
        obtain ⟨d100, l100⟩ := b100 h59
        refine t_ifne (t := 108) dX5_readLine_103 (by decide) (fun h103 => False.elim (by omega)) (fun h103 => ?_)
        refine n_iconst dX5_readLine_106 (by decide) (fun r106 e106 => ?_)
        refine m_zret dX5_readLine_107 rfl (by omega) (by first | exact Nat.le_of_ble_eq_true rfl | (dsimp only [zV, zVh, zVg, zrm]; omega) | omega) (by first | exact Nat.le_of_ble_eq_true rfl | (dsimp only [zV, zVh, zVg, zrm]; omega) | omega) ?_
        exact hQ0 ba_bd.1 _ wc v100 g100 jc e106 hgr (frX_tr fc (frX_M (frM_su o100 (by decide) (by decide))) (Nat.le_refl _)) l100
  have hsm : (smI (wdP B n p)).toInt = 0 := by
    unfold smI
    rw [if_neg (by omega), if_neg (by omega), if_neg (by omega), if_neg (by omega), if_neg (by omega)]
    rfl
  have hv : (lnP B n t p) = (2, p, t) := (if_pos h3).trans ((if_neg (by omega)).trans ((if_neg (by omega)).trans (if_neg (by omega))))
  have hba : baP B n p = 2 := by
    unfold baP
    rw [if_neg (by omega)]
  rw [hv] at hQ0
  refine r_aloadR0 dX5_readLine_0 ?_
  refine m_getV (x := (f A 4)) zf_RX5_25 rfl dX5_readLine_1 hr.1 (rfl) ?_
  refine n_iconst dX5_readLine_4 (by decide) (fun r4 e4_z => ?_)
  refine t_iceq (t := 13) dX5_readLine_5 (by decide) (fun h5 => ?_) (fun h5 => False.elim (by omega))
  refine k_gets ko.2.2.2.2.2.1 zg_RX5_83 dX5_readLine_13 ?_
  refine r_aloadR0 dX5_readLine_16 ?_
  refine m_getR (q := (ca (wdP B n p))) zf_RX5_37 rfl dX5_readLine_17 hr.1 (zu_at.trans hv3) ?_
  refine k_ord G dX5_readLine_20 (fun U hU => (hkw U hU).1) (fun U hU => (hkw U hU).2.2.2) (by first | exact Nat.le_of_ble_eq_true rfl | (dsimp only [zV, zVh, zVg, zrm]; omega) | omega) (by first | exact Nat.le_of_ble_eq_true rfl | (dsimp only [zV, zVh, zVg, zrm]; omega) | omega) (by first | exact Nat.le_of_ble_eq_true rfl | (dsimp only [zV, zVh, zVg, zrm]; omega) | omega) (by first | exact Nat.le_of_ble_eq_true rfl | (dsimp only [zV, zVh, zVg, zrm]; omega) | omega) (by first | exact Nat.le_of_ble_eq_true rfl | (dsimp only [zV, zVh, zVg, zrm]; omega) | omega) ?_
  refine k_iald (k := wdP B n p) (v := .int (smI (wdP B n p))) ko.2.2.2.2.2.2.1 (zi_n (by omega)) (by omega) (by decide) rfl dX5_readLine_23 ?_
  refine n_tabD (t := 88) dX5_readLine_24 (by decide) (by omega) ?_
  refine r_aloadR0 dX5_readLine_88 ?_
  refine q_callV0 zm_RX5_80 dX5_readLine_89 hr.1 (by decide) rfl (by first | exact Nat.le_of_ble_eq_true rfl | (dsimp only [zV, zVh, zVg, zrm]; omega) | omega) (by first | exact Nat.le_of_ble_eq_true rfl | (dsimp only [zV, zVh, zVg, zrm]; omega) | omega) (by first | exact Nat.le_of_ble_eq_true rfl | (dsimp only [zV, zVh, zVg, zrm]; omega) | omega) (by first | exact Nat.le_of_ble_eq_true rfl | (dsimp only [zV, zVh, zVg, zrm]; omega) | omega) (by first | exact Nat.le_of_ble_eq_true rfl | (dsimp only [zV, zVh, zVg, zrm]; omega) | omega) (s_X5_refuseToken G hr htk (fun r89 g89 e89 o89 l89 => ?_))
  rw [hba] at l89
  refine r_istore1 dX5_readLine_92 rfl ?_
  refine r_iload1 dX5_readLine_93 ?_
  refine t_ifeq (t := 106) dX5_readLine_94 (by decide) (fun h94 => ?_) (fun h94 => False.elim (by omega))
  refine n_iconst dX5_readLine_106 (by decide) (fun r106 e106 => ?_)
  refine m_zret dX5_readLine_107 rfl (by omega) (by first | exact Nat.le_of_ble_eq_true rfl | (dsimp only [zV, zVh, zVg, zrm]; omega) | omega) (by first | exact Nat.le_of_ble_eq_true rfl | (dsimp only [zV, zVh, zVg, zrm]; omega) | omega) ?_
  exact hQ0 (show ¬ ((2 : Nat) = 0) by decide) _ w _ g89 j e106 grX_rf (frX_M (frM_su o89 (by decide) (by decide))) l89
