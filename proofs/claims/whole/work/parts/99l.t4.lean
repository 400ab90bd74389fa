/-! the class's Reader: atoms, products, sums, truths at each depth -/
set_option maxHeartbeats 4000000 in
set_option maxRecDepth 100000 in
theorem s_X5_readAtom_0 {g : zGT} {w : zW} {f : Nat → Nat → Int32} {j : Nat → Nat → Int64} {A tq nq : Nat} {v : Option Nat} {B : Nat → Nat} {n : Nat} {ca wa wv : Nat → Nat} {kq ta sm gq gv : Nat} {p lm u : Nat} {x : Int32} {Q : Option Value → zW → Prop} {QX : String → zW → Prop} (G : zGok g) (hr : shRd w A tq nq) (kw : kWd g wa wv kq) (ko : kWo g ca wa wv ta sm gq gv) (htp : tpR B n f A tq) (htk : tkR ca B n f v A p) (hx : x.toInt = 6) (hol : (f A 10).toInt = if lm = 5 then 1 else 0) (hu : (f A 9).toInt = (u : Nat)) (hup : u ≤ p) (hQ : ∀ (b : Int32) v2 f2_z, frM A [8] [2, 3, 4, 5, 9, 11, 12] f f2_z → ((atP B n (if lm = 5 then 8 else 6) 0 p).1 = 0 → b.toInt = 1 ∧ tkR ca B n f2_z v2 A (atP B n (if lm = 5 then 8 else 6) 0 p).2.1 ∧ okR f f2_z A u (atP B n (if lm = 5 then 8 else 6) 0 p).2.2) → ((atP B n (if lm = 5 then 8 else 6) 0 p).1 ≠ 0 → b.toInt = 0 ∧ flR f2_z A (atP B n (if lm = 5 then 8 else 6) 0 p).1 (atP B n (if lm = 5 then 8 else 6) 0 p).2.1) → Q (some (.int b)) (zM (wW w A v2) f2_z j)) : zC g 10 yX5_readAtom cX5_readAtom 3 (some .boolean) [.ref A, .int x] (zM (wW w A v) f j) (0, 0) Q QX := by
  refine zC_of G (by decide +kernel) (Nat.le_of_ble_eq_true rfl) ?_
  have ht := hr.2.2.2.2.2.2
  have h4 := htk.2.2.2.1
  have hpn := htk.1
  have h900 := htp.2.1
  by_cases hp : tkP B n p = 40
  · have hv : atP B n (if lm = 5 then 8 else 6) 0 p = (4, p, []) := if_pos hp
    rw [hv] at hQ
    refine r_aloadR0 dX5_readAtom_0 ?_
    refine m_getV (x := (f A 4)) zf_RX5_25 rfl dX5_readAtom_1 hr.1 (rfl) ?_
    refine n_bipush dX5_readAtom_4 (by decide) (fun r4 e4_z => ?_)
    refine t_icne (t := 42) dX5_readAtom_6 (by decide) (fun h6 => False.elim (by omega)) (fun h6 => ?_)
    refine r_aloadR0 dX5_readAtom_9 ?_
    refine r_iload1 dX5_readAtom_10 ?_
    refine q_callV1 zm_RX5_185 dX5_readAtom_11 hr.1 (by decide) rfl (Nat.le_of_ble_eq_true rfl) (Nat.le_of_ble_eq_true rfl) (Nat.le_of_ble_eq_true rfl) (Nat.le_of_ble_eq_true rfl) (Nat.le_of_ble_eq_true rfl) (s_X5_goDeeper (d := 6) G hr kw ko htp hx htk (fun r11 v11 g11 o11 a11 b11 => ?_))
    obtain ⟨c11, l11⟩ := b11 (Nat.le_refl 6)
    refine t_ifeq (t := 40) dX5_readAtom_14 (by decide) (fun h14 => ?_) (fun h14 => False.elim (by omega))
    refine n_iconst dX5_readAtom_40 (by decide) (fun r40 e40 => ?_)
    refine m_zret dX5_readAtom_41 rfl (by omega) (Nat.le_of_ble_eq_true rfl) (Nat.le_of_ble_eq_true rfl) ?_
    exact hQ _ _ g11 (frM_su o11 (by decide) (by decide)) (fun h_z => absurd (show (4 : Nat) = 0 from h_z) (by decide)) (fun _ => ⟨e40, l11⟩)
  have hv0 : atP B n (if lm = 5 then 8 else 6) 0 p = a1P B n (if lm = 5 then 8 else 6) p := if_neg hp
  rw [hv0] at hQ
  by_cases h2 : tkP B n p = 2
  · have hv : a1P B n (if lm = 5 then 8 else 6) p = (0, nxP B n p, [nmP B n p]) := a1_num h2
    rw [hv] at hQ
    have hln := (tk2 h2).1
    have h5 := htk.2.2.2.2.1 h2
    refine r_aloadR0 dX5_readAtom_0 ?_
    refine m_getV (x := (f A 4)) zf_RX5_25 rfl dX5_readAtom_1 hr.1 (rfl) ?_
    refine n_bipush dX5_readAtom_4 (by decide) (fun r4 e4_z => ?_)
    refine t_icne (t := 42) dX5_readAtom_6 (by decide) (fun h6 => ?_) (fun h6 => False.elim (by omega))
    refine r_aloadR0 dX5_readAtom_42 ?_
    refine m_getV (x := (f A 4)) zf_RX5_25 rfl dX5_readAtom_43 hr.1 (rfl) ?_
    refine n_iconst dX5_readAtom_46 (by decide) (fun r46 e46 => ?_)
    refine t_icne (t := 64) dX5_readAtom_47 (by decide) (fun h47 => False.elim (by omega)) (fun h47 => ?_)
    refine r_aloadR0 dX5_readAtom_50 ?_
    refine r_aloadR0 dX5_readAtom_51 ?_
    refine m_getV (x := (f A 5)) zf_RX5_28 rfl dX5_readAtom_52 hr.1 (rfl) ?_
    refine q_callV1 zm_RX5_173 dX5_readAtom_55 hr.1 (by decide) rfl (Nat.le_of_ble_eq_true rfl) (Nat.le_of_ble_eq_true rfl) (Nat.le_of_ble_eq_true rfl) (Nat.le_of_ble_eq_true rfl) (Nat.le_of_ble_eq_true rfl) (s_X5_emit (u := u) G hr hu (by omega) (fun g55 o55 a55 b55 c55 => ?_))
    have t55 := tkR_of htk o55 (by decide) (by decide) (by decide) (by decide)
    have htp55 := tpR_of htp ht o55 (by decide)
    refine r_aloadR0 dX5_readAtom_58 ?_
    refine q_callV0 zm_RX5_73 dX5_readAtom_59 hr.1 (by decide) rfl (Nat.le_of_ble_eq_true rfl) (Nat.le_of_ble_eq_true rfl) (Nat.le_of_ble_eq_true rfl) (Nat.le_of_ble_eq_true rfl) (Nat.le_of_ble_eq_true rfl) (s_X5_next (p := teP B n p) G hr kw ko htp55 t55.2.1 (teP_le t55.1) t55.2.2.2.2.2.2 (fun v59 g59 o59 t59 => ?_))
    have t59 : tkR ca B n g59 v59 A (nxP B n p) := t59
    refine n_iconst dX5_readAtom_62 (by decide) (fun r62 e62 => ?_)
    refine m_zret dX5_readAtom_63 rfl (by omega) (Nat.le_of_ble_eq_true rfl) (Nat.le_of_ble_eq_true rfl) ?_
    exact hQ _ _ g59 (frM_tr (frM_su o55 (by decide) (by decide)) (frM_su o59 (by decide) (by decide))) (fun _ => ⟨e62, t59, okR_cg (okR_one a55 b55 c55 h5) rfl (o59.2.1 8 (by decide) (by decide) (by decide)) (o59.2.2 9 (by decide))⟩) (fun h_z => absurd rfl h_z)
  have hwl := wd_le (B := B) (n := n) (s := p)
  have f1_z := fcI_ne (wdP B n p) (by omega)
  have f2_z := fcI_eq (wdP B n p) (by omega)
  have f3_z := fcP_a (wdP B n p) (by omega)
  have f9_z := fcP_9 (wdP B n p) (by omega)
  by_cases hf : tkP B n p = 3 ∧ fcP (wdP B n p) < (if lm = 5 then 8 else 6)
  · have hv : a1P B n (if lm = 5 then 8 else 6) p = (0, nxP B n p, [1000 + fcP (wdP B n p)]) := a1_fact hf
    rw [hv] at hQ
    have hv3 := htk.2.2.2.2.2.1 hf.1
    have hf8 : fcP (wdP B n p) < 8 := Nat.lt_of_lt_of_le hf.2 (by split <;> decide)
    have hln := tk_lt (B := B) (n := n) (s := p) (by rw [hf.1]; decide)
    have g3_z := f2_z (by omega)
    have n1 : (fcI (wdP B n p)).toInt ≠ -1 := fun h_z => by have := f1_z.mp h_z; omega
    by_cases h5l : lm = 5
    · rw [if_pos h5l] at hol
      refine r_aloadR0 dX5_readAtom_0 ?_
      refine m_getV (x := (f A 4)) zf_RX5_25 rfl dX5_readAtom_1 hr.1 (rfl) ?_
      refine n_bipush dX5_readAtom_4 (by decide) (fun r4 e4_z => ?_)
      refine t_icne (t := 42) dX5_readAtom_6 (by decide) (fun h6 => ?_) (fun h6 => False.elim (by omega))
      refine r_aloadR0 dX5_readAtom_42 ?_
      refine m_getV (x := (f A 4)) zf_RX5_25 rfl dX5_readAtom_43 hr.1 (rfl) ?_
      refine n_iconst dX5_readAtom_46 (by decide) (fun r46 e46 => ?_)
      refine t_icne (t := 64) dX5_readAtom_47 (by decide) (fun h47 => ?_) (fun h47 => False.elim (by omega))
      refine r_aloadR0 dX5_readAtom_64 ?_
      refine m_getV (x := (f A 4)) zf_RX5_25 rfl dX5_readAtom_65 hr.1 (rfl) ?_
      refine n_iconst dX5_readAtom_68 (by decide) (fun r68 e68 => ?_)
      refine t_icne (t := 104) dX5_readAtom_69 (by decide) (fun h69 => False.elim (by omega)) (fun h69 => ?_)
      refine r_aloadR0 dX5_readAtom_72 ?_
      refine m_getR (q := (ca (wdP B n p))) zf_RX5_37 rfl dX5_readAtom_73 hr.1 (zu_at.trans hv3) ?_
      refine k_getf (fun U hU => (ko.2.2.2.2.1 _ (Nat.lt_succ_of_le wd_le) U hU).2.2.1) zg_RX5_197 dX5_readAtom_76 ?_
      refine n_iconst dX5_readAtom_79 (by decide) (fun r79 e79 => ?_)
      refine t_iceq (t := 104) dX5_readAtom_80 (by decide) (fun h80 => False.elim (by omega)) (fun h80 => ?_)
      refine r_aloadR0 dX5_readAtom_83 ?_
      refine m_getV (x := (f A 10)) zf_RX5_54 rfl dX5_readAtom_84 hr.1 (rfl) ?_
      refine t_ifne (t := 100) dX5_readAtom_87 (by decide) (fun h87 => ?_) (fun h87 => False.elim (by omega))
      refine n_iconst dX5_readAtom_100 (by decide) (fun r100 e100_z => ?_)
      refine r_goto (t := 105) dX5_readAtom_101 (by decide) ?_
      refine r_istore2 dX5_readAtom_105 rfl ?_
      refine r_iload2 dX5_readAtom_106 ?_
      refine t_ifne (t := 115) dX5_readAtom_107 (by decide) (fun h107 => ?_) (fun h107 => False.elim (by omega))
      refine r_aloadR0 dX5_readAtom_115 ?_
      refine n_sipush dX5_readAtom_116 (by decide) (fun r116 e116 => ?_)
      refine r_aloadR0 dX5_readAtom_119 ?_
      refine m_getR (q := (ca (wdP B n p))) zf_RX5_37 rfl dX5_readAtom_120 hr.1 (zu_at.trans hv3) ?_
      refine k_getf (fun U hU => (ko.2.2.2.2.1 _ (Nat.lt_succ_of_le wd_le) U hU).2.2.1) zg_RX5_197 dX5_readAtom_123 ?_
      refine n_iadd dX5_readAtom_126 (by omega) (fun r126 e126 => ?_)
      refine q_callV1 zm_RX5_173 dX5_readAtom_127 hr.1 (by decide) rfl (Nat.le_of_ble_eq_true rfl) (Nat.le_of_ble_eq_true rfl) (Nat.le_of_ble_eq_true rfl) (Nat.le_of_ble_eq_true rfl) (Nat.le_of_ble_eq_true rfl) (s_X5_emit (u := u) G hr hu (by omega) (fun g127 o127 a127 b127 c127 => ?_))
      have t127 := tkR_of htk o127 (by decide) (by decide) (by decide) (by decide)
      have htp127 := tpR_of htp ht o127 (by decide)
      refine r_aloadR0 dX5_readAtom_130 ?_
      refine q_callV0 zm_RX5_73 dX5_readAtom_131 hr.1 (by decide) rfl (Nat.le_of_ble_eq_true rfl) (Nat.le_of_ble_eq_true rfl) (Nat.le_of_ble_eq_true rfl) (Nat.le_of_ble_eq_true rfl) (Nat.le_of_ble_eq_true rfl) (s_X5_next (p := teP B n p) G hr kw ko htp127 t127.2.1 (teP_le t127.1) t127.2.2.2.2.2.2 (fun v131 g131 o131 t131 => ?_))
      have t131 : tkR ca B n g131 v131 A (nxP B n p) := t131
      refine n_iconst dX5_readAtom_134 (by decide) (fun r134 e134 => ?_)
      refine m_zret dX5_readAtom_135 rfl (by omega) (Nat.le_of_ble_eq_true rfl) (Nat.le_of_ble_eq_true rfl) ?_
      exact hQ _ _ g131 (frM_tr (frM_su o127 (by decide) (by decide)) (frM_su o131 (by decide) (by decide))) (fun _ => ⟨e134, t131, okR_cg (okR_one a127 b127 c127 (by omega)) rfl (o131.2.1 8 (by decide) (by decide) (by decide)) (o131.2.2 9 (by decide))⟩) (fun h_z => absurd rfl h_z)
    · rw [if_neg h5l] at hol
      have h6 : fcP (wdP B n p) < 6 := by have h7 := hf.2; rw [if_neg h5l] at h7; exact h7
      have hna := (f3_z hf8).mp h6
      refine r_aloadR0 dX5_readAtom_0 ?_
      refine m_getV (x := (f A 4)) zf_RX5_25 rfl dX5_readAtom_1 hr.1 (rfl) ?_
      refine n_bipush dX5_readAtom_4 (by decide) (fun r4 e4_z => ?_)
      refine t_icne (t := 42) dX5_readAtom_6 (by decide) (fun h6 => ?_) (fun h6 => False.elim (by omega))
      refine r_aloadR0 dX5_readAtom_42 ?_
      refine m_getV (x := (f A 4)) zf_RX5_25 rfl dX5_readAtom_43 hr.1 (rfl) ?_
      refine n_iconst dX5_readAtom_46 (by decide) (fun r46 e46 => ?_)
      refine t_icne (t := 64) dX5_readAtom_47 (by decide) (fun h47 => ?_) (fun h47 => False.elim (by omega))
      refine r_aloadR0 dX5_readAtom_64 ?_
      refine m_getV (x := (f A 4)) zf_RX5_25 rfl dX5_readAtom_65 hr.1 (rfl) ?_
      refine n_iconst dX5_readAtom_68 (by decide) (fun r68 e68 => ?_)
      refine t_icne (t := 104) dX5_readAtom_69 (by decide) (fun h69 => False.elim (by omega)) (fun h69 => ?_)
      refine r_aloadR0 dX5_readAtom_72 ?_
      refine m_getR (q := (ca (wdP B n p))) zf_RX5_37 rfl dX5_readAtom_73 hr.1 (zu_at.trans hv3) ?_
      refine k_getf (fun U hU => (ko.2.2.2.2.1 _ (Nat.lt_succ_of_le wd_le) U hU).2.2.1) zg_RX5_197 dX5_readAtom_76 ?_
      refine n_iconst dX5_readAtom_79 (by decide) (fun r79 e79 => ?_)
      refine t_iceq (t := 104) dX5_readAtom_80 (by decide) (fun h80 => False.elim (by omega)) (fun h80 => ?_)
      refine r_aloadR0 dX5_readAtom_83 ?_
      refine m_getV (x := (f A 10)) zf_RX5_54 rfl dX5_readAtom_84 hr.1 (rfl) ?_
      refine t_ifne (t := 100) dX5_readAtom_87 (by decide) (fun h87 => False.elim (by omega)) (fun h87 => ?_)
      refine r_aloadR0 dX5_readAtom_90 ?_
      refine m_getR (q := (ca (wdP B n p))) zf_RX5_37 rfl dX5_readAtom_91 hr.1 (zu_at.trans hv3) ?_
      refine k_callV0 zm_RX5_200 dX5_readAtom_94 (fun U hU => (ko.2.2.2.2.1 _ (Nat.lt_succ_of_le wd_le) U hU).1) (Nat.le_of_ble_eq_true rfl) (Nat.le_of_ble_eq_true rfl) (Nat.le_of_ble_eq_true rfl) (Nat.le_of_ble_eq_true rfl) (Nat.le_of_ble_eq_true rfl) (s_X10_isOfLikesAlone (i := wdP B n p) G kw ko (by omega) (fun r94 e94_z => ?_))
      refine t_ifne (t := 104) dX5_readAtom_97 (by decide) (fun h97 => False.elim (e94_z.elim (fun h_z => hna h_z.2) (fun h_z => by omega))) (fun h97 => ?_)
      refine n_iconst dX5_readAtom_100 (by decide) (fun r100 e100_z => ?_)
      refine r_goto (t := 105) dX5_readAtom_101 (by decide) ?_
      refine r_istore2 dX5_readAtom_105 rfl ?_
      refine r_iload2 dX5_readAtom_106 ?_
      refine t_ifne (t := 115) dX5_readAtom_107 (by decide) (fun h107 => ?_) (fun h107 => False.elim (by omega))
      refine r_aloadR0 dX5_readAtom_115 ?_
      refine n_sipush dX5_readAtom_116 (by decide) (fun r116 e116 => ?_)
      refine r_aloadR0 dX5_readAtom_119 ?_
      refine m_getR (q := (ca (wdP B n p))) zf_RX5_37 rfl dX5_readAtom_120 hr.1 (zu_at.trans hv3) ?_
      refine k_getf (fun U hU => (ko.2.2.2.2.1 _ (Nat.lt_succ_of_le wd_le) U hU).2.2.1) zg_RX5_197 dX5_readAtom_123 ?_
      refine n_iadd dX5_readAtom_126 (by omega) (fun r126 e126 => ?_)
      refine q_callV1 zm_RX5_173 dX5_readAtom_127 hr.1 (by decide) rfl (Nat.le_of_ble_eq_true rfl) (Nat.le_of_ble_eq_true rfl) (Nat.le_of_ble_eq_true rfl) (Nat.le_of_ble_eq_true rfl) (Nat.le_of_ble_eq_true rfl) (s_X5_emit (u := u) G hr hu (by omega) (fun g127 o127 a127 b127 c127 => ?_))
      have t127 := tkR_of htk o127 (by decide) (by decide) (by decide) (by decide)
      have htp127 := tpR_of htp ht o127 (by decide)
      refine r_aloadR0 dX5_readAtom_130 ?_
      refine q_callV0 zm_RX5_73 dX5_readAtom_131 hr.1 (by decide) rfl (Nat.le_of_ble_eq_true rfl) (Nat.le_of_ble_eq_true rfl) (Nat.le_of_ble_eq_true rfl) (Nat.le_of_ble_eq_true rfl) (Nat.le_of_ble_eq_true rfl) (s_X5_next (p := teP B n p) G hr kw ko htp127 t127.2.1 (teP_le t127.1) t127.2.2.2.2.2.2 (fun v131 g131 o131 t131 => ?_))
      have t131 : tkR ca B n g131 v131 A (nxP B n p) := t131
      refine n_iconst dX5_readAtom_134 (by decide) (fun r134 e134 => ?_)
      refine m_zret dX5_readAtom_135 rfl (by omega) (Nat.le_of_ble_eq_true rfl) (Nat.le_of_ble_eq_true rfl) ?_
      exact hQ _ _ g131 (frM_tr (frM_su o127 (by decide) (by decide)) (frM_su o131 (by decide) (by decide))) (fun _ => ⟨e134, t131, okR_cg (okR_one a127 b127 c127 (by omega)) rfl (o131.2.1 8 (by decide) (by decide) (by decide)) (o131.2.2 9 (by decide))⟩) (fun h_z => absurd rfl h_z)
  have hba := ba_bd (B := B) (n := n) (s := p)
  have hv : a1P B n (if lm = 5 then 8 else 6) p = (baP B n p, p, []) := a1_bad h2 hf
  rw [hv] at hQ
  by_cases h3 : tkP B n p = 3
  · have hv3 := htk.2.2.2.2.2.1 h3
    by_cases h8 : fcP (wdP B n p) = 8
    · have n1 := f1_z.mpr h8
      refine r_aloadR0 dX5_readAtom_0 ?_
      refine m_getV (x := (f A 4)) zf_RX5_25 rfl dX5_readAtom_1 hr.1 (rfl) ?_
      refine n_bipush dX5_readAtom_4 (by decide) (fun r4 e4_z => ?_)
      refine t_icne (t := 42) dX5_readAtom_6 (by decide) (fun h6 => ?_) (fun h6 => False.elim (by omega))
      refine r_aloadR0 dX5_readAtom_42 ?_
      refine m_getV (x := (f A 4)) zf_RX5_25 rfl dX5_readAtom_43 hr.1 (rfl) ?_
      refine n_iconst dX5_readAtom_46 (by decide) (fun r46 e46 => ?_)
      refine t_icne (t := 64) dX5_readAtom_47 (by decide) (fun h47 => ?_) (fun h47 => False.elim (by omega))
      refine r_aloadR0 dX5_readAtom_64 ?_
      refine m_getV (x := (f A 4)) zf_RX5_25 rfl dX5_readAtom_65 hr.1 (rfl) ?_
      refine n_iconst dX5_readAtom_68 (by decide) (fun r68 e68 => ?_)
      refine t_icne (t := 104) dX5_readAtom_69 (by decide) (fun h69 => False.elim (by omega)) (fun h69 => ?_)
      refine r_aloadR0 dX5_readAtom_72 ?_
      refine m_getR (q := (ca (wdP B n p))) zf_RX5_37 rfl dX5_readAtom_73 hr.1 (zu_at.trans hv3) ?_
      refine k_getf (fun U hU => (ko.2.2.2.2.1 _ (Nat.lt_succ_of_le wd_le) U hU).2.2.1) zg_RX5_197 dX5_readAtom_76 ?_
      refine n_iconst dX5_readAtom_79 (by decide) (fun r79 e79 => ?_)
      refine t_iceq (t := 104) dX5_readAtom_80 (by decide) (fun h80 => ?_) (fun h80 => False.elim (by omega))
      refine n_iconst dX5_readAtom_104 (by decide) (fun r104 e104_z => ?_)
      refine r_istore2 dX5_readAtom_105 rfl ?_
      refine r_iload2 dX5_readAtom_106 ?_
      refine t_ifne (t := 115) dX5_readAtom_107 (by decide) (fun h107 => False.elim (by omega)) (fun h107 => ?_)
      refine r_aloadR0 dX5_readAtom_110 ?_
      refine q_callV0 zm_RX5_80 dX5_readAtom_111 hr.1 (by decide) rfl (Nat.le_of_ble_eq_true rfl) (Nat.le_of_ble_eq_true rfl) (Nat.le_of_ble_eq_true rfl) (Nat.le_of_ble_eq_true rfl) (Nat.le_of_ble_eq_true rfl) (s_X5_refuseToken G hr htk (fun r111 g111 e111_z o111 l111 => ?_))
      refine m_zret dX5_readAtom_114 rfl (by omega) (Nat.le_of_ble_eq_true rfl) (Nat.le_of_ble_eq_true rfl) ?_
      exact hQ _ _ g111 (frM_su o111 (by decide) (by decide)) (fun h_z => absurd h_z hba.1) (fun _ => ⟨e111_z, l111⟩)
    · have n1 : (fcI (wdP B n p)).toInt ≠ -1 := fun h_z => h8 (f1_z.mp h_z)
      have h5l : lm ≠ 5 := fun h_z => hf ⟨h3, by rw [if_pos h_z]; omega⟩
      rw [if_neg h5l] at hol
      have hna : wdP B n p = 2 ∨ wdP B n p = 15 := Decidable.byContradiction (fun h_z => hf ⟨h3, by rw [if_neg h5l]; exact (f3_z (by omega)).mpr h_z⟩)
      refine r_aloadR0 dX5_readAtom_0 ?_
      refine m_getV (x := (f A 4)) zf_RX5_25 rfl dX5_readAtom_1 hr.1 (rfl) ?_
      refine n_bipush dX5_readAtom_4 (by decide) (fun r4 e4_z => ?_)
      refine t_icne (t := 42) dX5_readAtom_6 (by decide) (fun h6 => ?_) (fun h6 => False.elim (by omega))
      refine r_aloadR0 dX5_readAtom_42 ?_
      refine m_getV (x := (f A 4)) zf_RX5_25 rfl dX5_readAtom_43 hr.1 (rfl) ?_
      refine n_iconst dX5_readAtom_46 (by decide) (fun r46 e46 => ?_)
      refine t_icne (t := 64) dX5_readAtom_47 (by decide) (fun h47 => ?_) (fun h47 => False.elim (by omega))
      refine r_aloadR0 dX5_readAtom_64 ?_
      refine m_getV (x := (f A 4)) zf_RX5_25 rfl dX5_readAtom_65 hr.1 (rfl) ?_
      refine n_iconst dX5_readAtom_68 (by decide) (fun r68 e68 => ?_)
      refine t_icne (t := 104) dX5_readAtom_69 (by decide) (fun h69 => False.elim (by omega)) (fun h69 => ?_)
      refine r_aloadR0 dX5_readAtom_72 ?_
      refine m_getR (q := (ca (wdP B n p))) zf_RX5_37 rfl dX5_readAtom_73 hr.1 (zu_at.trans hv3) ?_
      refine k_getf (fun U hU => (ko.2.2.2.2.1 _ (Nat.lt_succ_of_le wd_le) U hU).2.2.1) zg_RX5_197 dX5_readAtom_76 ?_
      refine n_iconst dX5_readAtom_79 (by decide) (fun r79 e79 => ?_)
      refine t_iceq (t := 104) dX5_readAtom_80 (by decide) (fun h80 => False.elim (by omega)) (fun h80 => ?_)
      refine r_aloadR0 dX5_readAtom_83 ?_
      refine m_getV (x := (f A 10)) zf_RX5_54 rfl dX5_readAtom_84 hr.1 (rfl) ?_
      refine t_ifne (t := 100) dX5_readAtom_87 (by decide) (fun h87 => False.elim (by omega)) (fun h87 => ?_)
      refine r_aloadR0 dX5_readAtom_90 ?_
      refine m_getR (q := (ca (wdP B n p))) zf_RX5_37 rfl dX5_readAtom_91 hr.1 (zu_at.trans hv3) ?_
      refine k_callV0 zm_RX5_200 dX5_readAtom_94 (fun U hU => (ko.2.2.2.2.1 _ (Nat.lt_succ_of_le wd_le) U hU).1) (Nat.le_of_ble_eq_true rfl) (Nat.le_of_ble_eq_true rfl) (Nat.le_of_ble_eq_true rfl) (Nat.le_of_ble_eq_true rfl) (Nat.le_of_ble_eq_true rfl) (s_X10_isOfLikesAlone (i := wdP B n p) G kw ko (by omega) (fun r94 e94_z => ?_))
      refine t_ifne (t := 104) dX5_readAtom_97 (by decide) (fun h97 => ?_) (fun h97 => False.elim (e94_z.elim (fun h_z => by omega) (fun h_z => h_z.2 hna)))
      refine n_iconst dX5_readAtom_104 (by decide) (fun r104 e104_z => ?_)
      refine r_istore2 dX5_readAtom_105 rfl ?_
      refine r_iload2 dX5_readAtom_106 ?_
      refine t_ifne (t := 115) dX5_readAtom_107 (by decide) (fun h107 => False.elim (by omega)) (fun h107 => ?_)
      refine r_aloadR0 dX5_readAtom_110 ?_
      refine q_callV0 zm_RX5_80 dX5_readAtom_111 hr.1 (by decide) rfl (Nat.le_of_ble_eq_true rfl) (Nat.le_of_ble_eq_true rfl) (Nat.le_of_ble_eq_true rfl) (Nat.le_of_ble_eq_true rfl) (Nat.le_of_ble_eq_true rfl) (s_X5_refuseToken G hr htk (fun r111 g111 e111_z o111 l111 => ?_))
      refine m_zret dX5_readAtom_114 rfl (by omega) (Nat.le_of_ble_eq_true rfl) (Nat.le_of_ble_eq_true rfl) ?_
      exact hQ _ _ g111 (frM_su o111 (by decide) (by decide)) (fun h_z => absurd h_z hba.1) (fun _ => ⟨e111_z, l111⟩)
  refine r_aloadR0 dX5_readAtom_0 ?_
  refine m_getV (x := (f A 4)) zf_RX5_25 rfl dX5_readAtom_1 hr.1 (rfl) ?_
  refine n_bipush dX5_readAtom_4 (by decide) (fun r4 e4_z => ?_)
  refine t_icne (t := 42) dX5_readAtom_6 (by decide) (fun h6 => ?_) (fun h6 => False.elim (by omega))
  refine r_aloadR0 dX5_readAtom_42 ?_
  refine m_getV (x := (f A 4)) zf_RX5_25 rfl dX5_readAtom_43 hr.1 (rfl) ?_
  refine n_iconst dX5_readAtom_46 (by decide) (fun r46 e46 => ?_)
  refine t_icne (t := 64) dX5_readAtom_47 (by decide) (fun h47 => ?_) (fun h47 => False.elim (by omega))
  refine r_aloadR0 dX5_readAtom_64 ?_
  refine m_getV (x := (f A 4)) zf_RX5_25 rfl dX5_readAtom_65 hr.1 (rfl) ?_
  refine n_iconst dX5_readAtom_68 (by decide) (fun r68 e68 => ?_)
  refine t_icne (t := 104) dX5_readAtom_69 (by decide) (fun h69 => ?_) (fun h69 => False.elim (by omega))
  refine n_iconst dX5_readAtom_104 (by decide) (fun r104 e104_z => ?_)
  refine r_istore2 dX5_readAtom_105 rfl ?_
  refine r_iload2 dX5_readAtom_106 ?_
  refine t_ifne (t := 115) dX5_readAtom_107 (by decide) (fun h107 => False.elim (by omega)) (fun h107 => ?_)
  refine r_aloadR0 dX5_readAtom_110 ?_
  refine q_callV0 zm_RX5_80 dX5_readAtom_111 hr.1 (by decide) rfl (Nat.le_of_ble_eq_true rfl) (Nat.le_of_ble_eq_true rfl) (Nat.le_of_ble_eq_true rfl) (Nat.le_of_ble_eq_true rfl) (Nat.le_of_ble_eq_true rfl) (s_X5_refuseToken G hr htk (fun r111 g111 e111_z o111 l111 => ?_))
  refine m_zret dX5_readAtom_114 rfl (by omega) (Nat.le_of_ble_eq_true rfl) (Nat.le_of_ble_eq_true rfl) ?_
  exact hQ _ _ g111 (frM_su o111 (by decide) (by decide)) (fun h_z => absurd h_z hba.1) (fun _ => ⟨e111_z, l111⟩)
set_option maxHeartbeats 4000000 in
set_option maxRecDepth 100000 in
theorem s_X5_readTerm_0 {g : zGT} {w : zW} {f : Nat → Nat → Int32} {j : Nat → Nat → Int64} {A tq nq : Nat} {v : Option Nat} {B : Nat → Nat} {n : Nat} {ca wa wv : Nat → Nat} {kq ta sm gq gv : Nat} {p lm u : Nat} {x : Int32} {Q : Option Value → zW → Prop} {QX : String → zW → Prop} (G : zGok g) (hr : shRd w A tq nq) (kw : kWd g wa wv kq) (ko : kWo g ca wa wv ta sm gq gv) (htp : tpR B n f A tq) (htk : tkR ca B n f v A p) (hx : x.toInt = 6) (hol : (f A 10).toInt = if lm = 5 then 1 else 0) (hu : (f A 9).toInt = (u : Nat)) (hup : u ≤ p) (hQ : ∀ (b : Int32) v2 f2_z, frM A [8] [2, 3, 4, 5, 9, 11, 12] f f2_z → ((chP B n (atP B n (if lm = 5 then 8 else 6) 0) (opT B n) p).1 = 0 → b.toInt = 1 ∧ tkR ca B n f2_z v2 A (chP B n (atP B n (if lm = 5 then 8 else 6) 0) (opT B n) p).2.1 ∧ okR f f2_z A u (chP B n (atP B n (if lm = 5 then 8 else 6) 0) (opT B n) p).2.2) → ((chP B n (atP B n (if lm = 5 then 8 else 6) 0) (opT B n) p).1 ≠ 0 → b.toInt = 0 ∧ flR f2_z A (chP B n (atP B n (if lm = 5 then 8 else 6) 0) (opT B n) p).1 (chP B n (atP B n (if lm = 5 then 8 else 6) 0) (opT B n) p).2.1) → Q (some (.int b)) (zM (wW w A v2) f2_z j)) : zC g 11 yX5_readTerm cX5_readTerm 3 (some .boolean) [.ref A, .int x] (zM (wW w A v) f j) (0, 0) Q QX := by
  refine zC_of G (by decide +kernel) (Nat.le_of_ble_eq_true rfl) ?_
  have ht := hr.2.2.2.2.2.2
  have h4 := htk.2.2.2.1
  have hpn := htk.1
  have h900 := htp.2.1
  have hgd : ∀ s, s ≤ n → gdP n false (if lm = 5 then 8 else 6) (1 + 2 * 0) s ((atP B n (if lm = 5 then 8 else 6) 0) s) := gd_at (by split <;> decide) 0
  have lp : ∀ (mz : Nat) (uu : Int32) (i : Nat) (k : Nat) (ps : Nat) (c : List Nat) (f2_z : Nat → Nat → Int32) (vv : Option Nat), uu.toInt = (i : Nat) → frM A [8] [2, 3, 4, 5, 9, 11, 12] f f2_z → tkR ca B n f2_z vv A ps → okR f f2_z A u c → p + i < ps → ps ≤ n → c.length + p ≤ ps → n ≤ k + ps → lpP B n (atP B n (if lm = 5 then 8 else 6) 0) (opT B n) k (0, ps, c) = chP B n (atP B n (if lm = 5 then 8 else 6) 0) (opT B n) p → k < mz → zR (zV g 11 yX5_readTerm 3 (some .boolean) (0, 0) Q QX) cX5_readTerm yX5_readTerm.cls 12 [some (.ref A), some (.int x), some (.int uu)] [] (zM (wW w A vv) f2_z j) (0, 0) := by
    intro mz
    induction mz with
    | zero =>
      intro uu i k ps c f2_z vv hui ofr htk2 hok hpi hps hcl hnk hR hmz
      exact absurd hmz (Nat.not_lt_zero _)
    | succ mz ih =>
      intro uu i k ps c f2_z vv hui ofr htk2 hok hpi hps hcl hnk hR hmz
      have htp2 := tpR_of htp ht ofr (by decide)
      have h1 := htp2.1
      have htk4 := htk2.2.2.2.1
      have hi9 : i < n := by omega
      by_cases hc_z : tkP B n ps = 42
      · have hop : (opT B n) ps = 2005 := if_pos hc_z
        have hop0 : (opT B n) ps ≠ 0 := by rw [hop]; decide
        have hln := tk_lt (B := B) (n := n) (s := ps) (by rw [hc_z]; decide)
        obtain ⟨k2_z, rfl⟩ : ∃ k2_z, k = k2_z + 1 := ⟨k - 1, by omega⟩
        have hnx := nxP_gt (B := B) hln
        have gq := hgd _ hnx.2
        by_cases hq : ((atP B n (if lm = 5 then 8 else 6) 0) (nxP B n ps)).1 = 0
        · obtain ⟨y1, y2, y3, y4⟩ := gq.1 hq
          refine r_iload2 dX5_readTerm_12 ?_
          refine r_aloadR0 dX5_readTerm_13 ?_
          refine m_getV (x := (f2_z A 1)) zf_RX5_15 rfl dX5_readTerm_14 hr.1 (rfl) ?_
          refine t_icge (t := 56) dX5_readTerm_17 (by decide) (fun h17 => False.elim (by omega)) (fun h17 => ?_)
          refine r_aloadR0 dX5_readTerm_20 ?_
          refine m_getV (x := (f2_z A 4)) zf_RX5_25 rfl dX5_readTerm_21 hr.1 (rfl) ?_
          refine n_bipush dX5_readTerm_24 (by decide) (fun r24 e24_z => ?_)
          refine t_icne (t := 56) dX5_readTerm_26 (by decide) (fun h26 => False.elim (by omega)) (fun h26 => ?_)
          refine r_aloadR0 dX5_readTerm_29 ?_
          refine q_callV0 zm_RX5_73 dX5_readTerm_30 hr.1 (by decide) rfl (Nat.le_of_ble_eq_true rfl) (Nat.le_of_ble_eq_true rfl) (Nat.le_of_ble_eq_true rfl) (Nat.le_of_ble_eq_true rfl) (Nat.le_of_ble_eq_true rfl) (s_X5_next (p := teP B n ps) G hr kw ko htp2 htk2.2.1 (teP_le htk2.1) htk2.2.2.2.2.2.2 (fun v30 g30 o30 t30 => ?_))
          have t30 : tkR ca B n g30 v30 A (nxP B n ps) := t30
          have htpn := tpR_of htp2 ht o30 (by decide)
          have wn : g30 (A + 8) = f2_z (A + 8) := o30.2.1 8 (by decide) (by decide) (by decide)
          refine r_aloadR0 dX5_readTerm_33 ?_
          refine r_iload1 dX5_readTerm_34 ?_
          refine q_callV1 zm_RX5_194 dX5_readTerm_35 hr.1 (by decide) rfl (Nat.le_of_ble_eq_true rfl) (Nat.le_of_ble_eq_true rfl) (Nat.le_of_ble_eq_true rfl) (Nat.le_of_ble_eq_true rfl) (Nat.le_of_ble_eq_true rfl) (s_X5_readAtom_0 (lm := lm) (u := u + c.length) G hr kw ko htpn t30 hx (by rw [o30.2.2 10 (by decide), ofr.2.2 10 (by decide)]; exact hol) (by rw [o30.2.2 9 (by decide)]; exact hok.1) (by omega) (fun rs vs gs os as bs => ?_))
          have as2 : ((atP B n (if lm = 5 then 8 else 6) 0) (nxP B n ps)).1 = 0 → rs.toInt = 1 ∧ tkR ca B n gs vs A ((atP B n (if lm = 5 then 8 else 6) 0) (nxP B n ps)).2.1 ∧ okR g30 gs A (u + c.length) ((atP B n (if lm = 5 then 8 else 6) 0) (nxP B n ps)).2.2 := as
          have bs2 : ((atP B n (if lm = 5 then 8 else 6) 0) (nxP B n ps)).1 ≠ 0 → rs.toInt = 0 ∧ flR gs A ((atP B n (if lm = 5 then 8 else 6) 0) (nxP B n ps)).1 ((atP B n (if lm = 5 then 8 else 6) 0) (nxP B n ps)).2.1 := bs
          have ofs : frM A [8] [2, 3, 4, 5, 9, 11, 12] f gs := frM_tr ofr (frM_tr (frM_su o30 (by decide) (by decide)) os)
          obtain ⟨cs, ts, ks⟩ := as2 hq
          refine t_ifne (t := 43) dX5_readTerm_38 (by decide) (fun h38 => ?_) (fun h38 => False.elim (by omega))
          refine r_aloadR0 dX5_readTerm_43 ?_
          refine n_sipush dX5_readTerm_44 (by decide) (fun r44 e44 => ?_)
          refine q_callV1 zm_RX5_173 dX5_readTerm_47 hr.1 (by decide) rfl (Nat.le_of_ble_eq_true rfl) (Nat.le_of_ble_eq_true rfl) (Nat.le_of_ble_eq_true rfl) (Nat.le_of_ble_eq_true rfl) (Nat.le_of_ble_eq_true rfl) (s_X5_emit (u := u + c.length + ((atP B n (if lm = 5 then 8 else 6) 0) (nxP B n ps)).2.2.length) G hr ks.1 (by omega) (fun g47 o47 a47 b47 c47 => ?_))
          refine n_iinc2 dX5_readTerm_50 (by decide) rfl (by omega) (fun r50 e50 => ?_)
          refine r_goto (t := 12) dX5_readTerm_53 (by decide) ?_
          refine ih _ (i + 1) k2_z ((atP B n (if lm = 5 then 8 else 6) 0) (nxP B n ps)).2.1 (c ++ ((atP B n (if lm = 5 then 8 else 6) 0) (nxP B n ps)).2.2 ++ [(opT B n) ps]) g47 _ (by omega) (frM_tr ofs (frM_su o47 (by decide) (by decide))) (tkR_of ts o47 (by decide) (by decide) (by decide) (by decide)) (okR_ap (okR_ap hok (okR_cg ks wn rfl rfl)) ?_) (by omega) y2 ?_ (by omega) ?_ (by omega)
          · rw [List.length_append, ← Nat.add_assoc, hop]
            exact okR_one a47 b47 c47 (by omega)
          · rw [List.length_append, List.length_append, List.length_singleton]
            omega
          · exact (lpP_on (r := (0, ps, c)) rfl hop0 hq).symm.trans hR
        · have hv : ((atP B n (if lm = 5 then 8 else 6) 0) (nxP B n ps)) = chP B n (atP B n (if lm = 5 then 8 else 6) 0) (opT B n) p := (lpP_sub (k := k2_z) (r := (0, ps, c)) rfl hop0 hq).symm.trans hR
          refine r_iload2 dX5_readTerm_12 ?_
          refine r_aloadR0 dX5_readTerm_13 ?_
          refine m_getV (x := (f2_z A 1)) zf_RX5_15 rfl dX5_readTerm_14 hr.1 (rfl) ?_
          refine t_icge (t := 56) dX5_readTerm_17 (by decide) (fun h17 => False.elim (by omega)) (fun h17 => ?_)
          refine r_aloadR0 dX5_readTerm_20 ?_
          refine m_getV (x := (f2_z A 4)) zf_RX5_25 rfl dX5_readTerm_21 hr.1 (rfl) ?_
          refine n_bipush dX5_readTerm_24 (by decide) (fun r24 e24_z => ?_)
          refine t_icne (t := 56) dX5_readTerm_26 (by decide) (fun h26 => False.elim (by omega)) (fun h26 => ?_)
          refine r_aloadR0 dX5_readTerm_29 ?_
          refine q_callV0 zm_RX5_73 dX5_readTerm_30 hr.1 (by decide) rfl (Nat.le_of_ble_eq_true rfl) (Nat.le_of_ble_eq_true rfl) (Nat.le_of_ble_eq_true rfl) (Nat.le_of_ble_eq_true rfl) (Nat.le_of_ble_eq_true rfl) (s_X5_next (p := teP B n ps) G hr kw ko htp2 htk2.2.1 (teP_le htk2.1) htk2.2.2.2.2.2.2 (fun v30 g30 o30 t30 => ?_))
          have t30 : tkR ca B n g30 v30 A (nxP B n ps) := t30
          have htpn := tpR_of htp2 ht o30 (by decide)
          have wn : g30 (A + 8) = f2_z (A + 8) := o30.2.1 8 (by decide) (by decide) (by decide)
          refine r_aloadR0 dX5_readTerm_33 ?_
          refine r_iload1 dX5_readTerm_34 ?_
          refine q_callV1 zm_RX5_194 dX5_readTerm_35 hr.1 (by decide) rfl (Nat.le_of_ble_eq_true rfl) (Nat.le_of_ble_eq_true rfl) (Nat.le_of_ble_eq_true rfl) (Nat.le_of_ble_eq_true rfl) (Nat.le_of_ble_eq_true rfl) (s_X5_readAtom_0 (lm := lm) (u := u + c.length) G hr kw ko htpn t30 hx (by rw [o30.2.2 10 (by decide), ofr.2.2 10 (by decide)]; exact hol) (by rw [o30.2.2 9 (by decide)]; exact hok.1) (by omega) (fun rs vs gs os as bs => ?_))
          have as2 : ((atP B n (if lm = 5 then 8 else 6) 0) (nxP B n ps)).1 = 0 → rs.toInt = 1 ∧ tkR ca B n gs vs A ((atP B n (if lm = 5 then 8 else 6) 0) (nxP B n ps)).2.1 ∧ okR g30 gs A (u + c.length) ((atP B n (if lm = 5 then 8 else 6) 0) (nxP B n ps)).2.2 := as
          have bs2 : ((atP B n (if lm = 5 then 8 else 6) 0) (nxP B n ps)).1 ≠ 0 → rs.toInt = 0 ∧ flR gs A ((atP B n (if lm = 5 then 8 else 6) 0) (nxP B n ps)).1 ((atP B n (if lm = 5 then 8 else 6) 0) (nxP B n ps)).2.1 := bs
          have ofs : frM A [8] [2, 3, 4, 5, 9, 11, 12] f gs := frM_tr ofr (frM_tr (frM_su o30 (by decide) (by decide)) os)
          obtain ⟨cs, ls⟩ := bs2 hq
          refine t_ifne (t := 43) dX5_readTerm_38 (by decide) (fun h38 => False.elim (by omega)) (fun h38 => ?_)
          refine n_iconst dX5_readTerm_41 (by decide) (fun r41 e41_z => ?_)
          refine m_zret dX5_readTerm_42 rfl (by omega) (Nat.le_of_ble_eq_true rfl) (Nat.le_of_ble_eq_true rfl) ?_
          rw [← hv] at hQ
          exact hQ _ _ gs ofs (fun h_z => absurd h_z hq) (fun _ => ⟨e41_z, ls⟩)
      have hop : (opT B n) ps = 0 := if_neg hc_z
      have hv := (lpP_end (B := B) (n := n) (k := k) (sub := (atP B n (if lm = 5 then 8 else 6) 0)) (r := (0, ps, c)) hop).symm.trans hR
      refine r_iload2 dX5_readTerm_12 ?_
      refine r_aloadR0 dX5_readTerm_13 ?_
      refine m_getV (x := (f2_z A 1)) zf_RX5_15 rfl dX5_readTerm_14 hr.1 (rfl) ?_
      refine t_icge (t := 56) dX5_readTerm_17 (by decide) (fun h17 => False.elim (by omega)) (fun h17 => ?_)
      refine r_aloadR0 dX5_readTerm_20 ?_
      refine m_getV (x := (f2_z A 4)) zf_RX5_25 rfl dX5_readTerm_21 hr.1 (rfl) ?_
      refine n_bipush dX5_readTerm_24 (by decide) (fun r24 e24_z => ?_)
      refine t_icne (t := 56) dX5_readTerm_26 (by decide) (fun h26 => ?_) (fun h26 => False.elim (by omega))
      refine n_iconst dX5_readTerm_56 (by decide) (fun r56 e56 => ?_)
      refine m_zret dX5_readTerm_57 rfl (by omega) (Nat.le_of_ble_eq_true rfl) (Nat.le_of_ble_eq_true rfl) ?_
      rw [← hv] at hQ
      exact hQ _ _ f2_z ofr (fun _ => ⟨e56, htk2, hok⟩) (fun h_z => absurd rfl h_z)
  have gp := hgd p hpn
  by_cases hq : ((atP B n (if lm = 5 then 8 else 6) 0) p).1 = 0
  · obtain ⟨y1, y2, y3, y4⟩ := gp.1 hq
    have hz : ((atP B n (if lm = 5 then 8 else 6) 0) p) = (0, ((atP B n (if lm = 5 then 8 else 6) 0) p).2.1, ((atP B n (if lm = 5 then 8 else 6) 0) p).2.2) := Prod.ext hq rfl
    refine r_aloadR0 dX5_readTerm_0 ?_
    refine r_iload1 dX5_readTerm_1 ?_
    refine q_callV1 zm_RX5_194 dX5_readTerm_2 hr.1 (by decide) rfl (Nat.le_of_ble_eq_true rfl) (Nat.le_of_ble_eq_true rfl) (Nat.le_of_ble_eq_true rfl) (Nat.le_of_ble_eq_true rfl) (Nat.le_of_ble_eq_true rfl) (s_X5_readAtom_0 G hr kw ko htp htk hx hol hu hup (fun r2 v2 g2 o2 a2 b2 => ?_))
    have a2b : ((atP B n (if lm = 5 then 8 else 6) 0) p).1 = 0 → r2.toInt = 1 ∧ tkR ca B n g2 v2 A ((atP B n (if lm = 5 then 8 else 6) 0) p).2.1 ∧ okR f g2 A u ((atP B n (if lm = 5 then 8 else 6) 0) p).2.2 := a2
    have b2b : ((atP B n (if lm = 5 then 8 else 6) 0) p).1 ≠ 0 → r2.toInt = 0 ∧ flR g2 A ((atP B n (if lm = 5 then 8 else 6) 0) p).1 ((atP B n (if lm = 5 then 8 else 6) 0) p).2.1 := b2
    obtain ⟨c2_z, t2, k2_z⟩ := a2b hq
    refine t_ifne (t := 10) dX5_readTerm_5 (by decide) (fun h5 => ?_) (fun h5 => False.elim (by omega))
    refine n_iconst dX5_readTerm_10 (by decide) (fun r10 e10_z => ?_)
    refine r_istore2 dX5_readTerm_11 rfl ?_
    exact lp (n + 1) _ 0 n ((atP B n (if lm = 5 then 8 else 6) 0) p).2.1 ((atP B n (if lm = 5 then 8 else 6) 0) p).2.2 g2 _ (by omega) o2 t2 k2_z (by omega) y2 y3 (by omega) (by rw [← hz]; rfl) (Nat.lt_succ_self n)
  · have hv : chP B n (atP B n (if lm = 5 then 8 else 6) 0) (opT B n) p = ((atP B n (if lm = 5 then 8 else 6) 0) p) := lpP_bad hq
    rw [hv] at hQ
    refine r_aloadR0 dX5_readTerm_0 ?_
    refine r_iload1 dX5_readTerm_1 ?_
    refine q_callV1 zm_RX5_194 dX5_readTerm_2 hr.1 (by decide) rfl (Nat.le_of_ble_eq_true rfl) (Nat.le_of_ble_eq_true rfl) (Nat.le_of_ble_eq_true rfl) (Nat.le_of_ble_eq_true rfl) (Nat.le_of_ble_eq_true rfl) (s_X5_readAtom_0 G hr kw ko htp htk hx hol hu hup (fun r2 v2 g2 o2 a2 b2 => ?_))
    have a2b : ((atP B n (if lm = 5 then 8 else 6) 0) p).1 = 0 → r2.toInt = 1 ∧ tkR ca B n g2 v2 A ((atP B n (if lm = 5 then 8 else 6) 0) p).2.1 ∧ okR f g2 A u ((atP B n (if lm = 5 then 8 else 6) 0) p).2.2 := a2
    have b2b : ((atP B n (if lm = 5 then 8 else 6) 0) p).1 ≠ 0 → r2.toInt = 0 ∧ flR g2 A ((atP B n (if lm = 5 then 8 else 6) 0) p).1 ((atP B n (if lm = 5 then 8 else 6) 0) p).2.1 := b2
    obtain ⟨c2_z, l2⟩ := b2b hq
    refine t_ifne (t := 10) dX5_readTerm_5 (by decide) (fun h5 => False.elim (by omega)) (fun h5 => ?_)
    refine n_iconst dX5_readTerm_8 (by decide) (fun r8 e8 => ?_)
    refine m_zret dX5_readTerm_9 rfl (by omega) (Nat.le_of_ble_eq_true rfl) (Nat.le_of_ble_eq_true rfl) ?_
    exact hQ _ _ g2 o2 (fun h_z => absurd h_z hq) (fun _ => ⟨e8, l2⟩)
set_option maxHeartbeats 4000000 in
set_option maxRecDepth 100000 in
theorem s_X5_readSum_0 {g : zGT} {w : zW} {f : Nat → Nat → Int32} {j : Nat → Nat → Int64} {A tq nq : Nat} {v : Option Nat} {B : Nat → Nat} {n : Nat} {ca wa wv : Nat → Nat} {kq ta sm gq gv : Nat} {p lm u : Nat} {x : Int32} {Q : Option Value → zW → Prop} {QX : String → zW → Prop} (G : zGok g) (hr : shRd w A tq nq) (kw : kWd g wa wv kq) (ko : kWo g ca wa wv ta sm gq gv) (htp : tpR B n f A tq) (htk : tkR ca B n f v A p) (hx : x.toInt = 6) (hol : (f A 10).toInt = if lm = 5 then 1 else 0) (hu : (f A 9).toInt = (u : Nat)) (hup : u ≤ p) (hQ : ∀ (b : Int32) v2 f2_z, frM A [8] [2, 3, 4, 5, 9, 11, 12] f f2_z → ((chP B n (chP B n (atP B n (if lm = 5 then 8 else 6) 0) (opT B n)) (opS B n) p).1 = 0 → b.toInt = 1 ∧ tkR ca B n f2_z v2 A (chP B n (chP B n (atP B n (if lm = 5 then 8 else 6) 0) (opT B n)) (opS B n) p).2.1 ∧ okR f f2_z A u (chP B n (chP B n (atP B n (if lm = 5 then 8 else 6) 0) (opT B n)) (opS B n) p).2.2) → ((chP B n (chP B n (atP B n (if lm = 5 then 8 else 6) 0) (opT B n)) (opS B n) p).1 ≠ 0 → b.toInt = 0 ∧ flR f2_z A (chP B n (chP B n (atP B n (if lm = 5 then 8 else 6) 0) (opT B n)) (opS B n) p).1 (chP B n (chP B n (atP B n (if lm = 5 then 8 else 6) 0) (opT B n)) (opS B n) p).2.1) → Q (some (.int b)) (zM (wW w A v2) f2_z j)) : zC g 12 yX5_readSum cX5_readSum 4 (some .boolean) [.ref A, .int x] (zM (wW w A v) f j) (0, 0) Q QX := by
  refine zC_of G (by decide +kernel) (Nat.le_of_ble_eq_true rfl) ?_
  have ht := hr.2.2.2.2.2.2
  have h4 := htk.2.2.2.1
  have hpn := htk.1
  have h900 := htp.2.1
  have hgd : ∀ s, s ≤ n → gdP n false (if lm = 5 then 8 else 6) (1 + 2 * 0 + 1) s ((chP B n (atP B n (if lm = 5 then 8 else 6) 0) (opT B n)) s) := fun s hs9 => gd_ch (gd_at (by split <;> decide) 0) hop_T hs9
  have lp : ∀ (mz : Nat) (uu : Int32) (i : Nat) (k : Nat) (ps : Nat) (c : List Nat) (f2_z : Nat → Nat → Int32) (vv : Option Nat) (v3_ : Option Value), uu.toInt = (i : Nat) → frM A [8] [2, 3, 4, 5, 9, 11, 12] f f2_z → tkR ca B n f2_z vv A ps → okR f f2_z A u c → p + i < ps → ps ≤ n → c.length + p ≤ ps → n ≤ k + ps → lpP B n (chP B n (atP B n (if lm = 5 then 8 else 6) 0) (opT B n)) (opS B n) k (0, ps, c) = chP B n (chP B n (atP B n (if lm = 5 then 8 else 6) 0) (opT B n)) (opS B n) p → k < mz → zR (zV g 12 yX5_readSum 4 (some .boolean) (0, 0) Q QX) cX5_readSum yX5_readSum.cls 12 [some (.ref A), some (.int x), some (.int uu), v3_] [] (zM (wW w A vv) f2_z j) (0, 0) := by
    intro mz
    induction mz with
    | zero =>
      intro uu i k ps c f2_z vv v3_ hui ofr htk2 hok hpi hps hcl hnk hR hmz
      exact absurd hmz (Nat.not_lt_zero _)
    | succ mz ih =>
      intro uu i k ps c f2_z vv v3_ hui ofr htk2 hok hpi hps hcl hnk hR hmz
      have htp2 := tpR_of htp ht ofr (by decide)
      have h1 := htp2.1
      have htk4 := htk2.2.2.2.1
      have hi9 : i < n := by omega
      by_cases hc_z : tkP B n ps = 43
      · have hop : (opS B n) ps = 2003 := if_pos hc_z
        have hop0 : (opS B n) ps ≠ 0 := by rw [hop]; decide
        have hln := tk_lt (B := B) (n := n) (s := ps) (by rw [hc_z]; decide)
        obtain ⟨k2_z, rfl⟩ : ∃ k2_z, k = k2_z + 1 := ⟨k - 1, by omega⟩
        have hnx := nxP_gt (B := B) hln
        have gq := hgd _ hnx.2
        by_cases hq : ((chP B n (atP B n (if lm = 5 then 8 else 6) 0) (opT B n)) (nxP B n ps)).1 = 0
        · obtain ⟨y1, y2, y3, y4⟩ := gq.1 hq
          refine r_iload2 dX5_readSum_12 ?_
          refine r_aloadR0 dX5_readSum_13 ?_
          refine m_getV (x := (f2_z A 1)) zf_RX5_15 rfl dX5_readSum_14 hr.1 (rfl) ?_
          refine t_icge (t := 82) dX5_readSum_17 (by decide) (fun h17 => False.elim (by omega)) (fun h17 => ?_)
          refine r_aloadR0 dX5_readSum_20 ?_
          refine m_getV (x := (f2_z A 4)) zf_RX5_25 rfl dX5_readSum_21 hr.1 (rfl) ?_
          refine n_bipush dX5_readSum_24 (by decide) (fun r24 e24_z => ?_)
          refine t_iceq (t := 38) dX5_readSum_26 (by decide) (fun h26 => ?_) (fun h26 => False.elim (by omega))
          refine r_aloadR0 dX5_readSum_38 ?_
          refine m_getV (x := (f2_z A 4)) zf_RX5_25 rfl dX5_readSum_39 hr.1 (rfl) ?_
          refine n_bipush dX5_readSum_42 (by decide) (fun r42 e42_z => ?_)
          refine t_icne (t := 53) dX5_readSum_44 (by decide) (fun h44 => False.elim (by omega)) (fun h44 => ?_)
          refine n_sipush dX5_readSum_47 (by decide) (fun r47 e47 => ?_)
          refine r_goto (t := 56) dX5_readSum_50 (by decide) ?_
          refine r_istore3 dX5_readSum_56 rfl ?_
          refine r_aloadR0 dX5_readSum_57 ?_
          refine q_callV0 zm_RX5_73 dX5_readSum_58 hr.1 (by decide) rfl (Nat.le_of_ble_eq_true rfl) (Nat.le_of_ble_eq_true rfl) (Nat.le_of_ble_eq_true rfl) (Nat.le_of_ble_eq_true rfl) (Nat.le_of_ble_eq_true rfl) (s_X5_next (p := teP B n ps) G hr kw ko htp2 htk2.2.1 (teP_le htk2.1) htk2.2.2.2.2.2.2 (fun v58 g58 o58 t58 => ?_))
          have t58 : tkR ca B n g58 v58 A (nxP B n ps) := t58
          have htpn := tpR_of htp2 ht o58 (by decide)
          have wn : g58 (A + 8) = f2_z (A + 8) := o58.2.1 8 (by decide) (by decide) (by decide)
          refine r_aloadR0 dX5_readSum_61 ?_
          refine r_iload1 dX5_readSum_62 ?_
          refine q_callV1 zm_RX5_191 dX5_readSum_63 hr.1 (by decide) rfl (Nat.le_of_ble_eq_true rfl) (Nat.le_of_ble_eq_true rfl) (Nat.le_of_ble_eq_true rfl) (Nat.le_of_ble_eq_true rfl) (Nat.le_of_ble_eq_true rfl) (s_X5_readTerm_0 (lm := lm) (u := u + c.length) G hr kw ko htpn t58 hx (by rw [o58.2.2 10 (by decide), ofr.2.2 10 (by decide)]; exact hol) (by rw [o58.2.2 9 (by decide)]; exact hok.1) (by omega) (fun rs vs gs os as bs => ?_))
          have as2 : ((chP B n (atP B n (if lm = 5 then 8 else 6) 0) (opT B n)) (nxP B n ps)).1 = 0 → rs.toInt = 1 ∧ tkR ca B n gs vs A ((chP B n (atP B n (if lm = 5 then 8 else 6) 0) (opT B n)) (nxP B n ps)).2.1 ∧ okR g58 gs A (u + c.length) ((chP B n (atP B n (if lm = 5 then 8 else 6) 0) (opT B n)) (nxP B n ps)).2.2 := as
          have bs2 : ((chP B n (atP B n (if lm = 5 then 8 else 6) 0) (opT B n)) (nxP B n ps)).1 ≠ 0 → rs.toInt = 0 ∧ flR gs A ((chP B n (atP B n (if lm = 5 then 8 else 6) 0) (opT B n)) (nxP B n ps)).1 ((chP B n (atP B n (if lm = 5 then 8 else 6) 0) (opT B n)) (nxP B n ps)).2.1 := bs
          have ofs : frM A [8] [2, 3, 4, 5, 9, 11, 12] f gs := frM_tr ofr (frM_tr (frM_su o58 (by decide) (by decide)) os)
          obtain ⟨cs, ts, ks⟩ := as2 hq
          refine t_ifne (t := 71) dX5_readSum_66 (by decide) (fun h66 => ?_) (fun h66 => False.elim (by omega))
          refine r_aloadR0 dX5_readSum_71 ?_
          refine r_iload3 dX5_readSum_72 ?_
          refine q_callV1 zm_RX5_173 dX5_readSum_73 hr.1 (by decide) rfl (Nat.le_of_ble_eq_true rfl) (Nat.le_of_ble_eq_true rfl) (Nat.le_of_ble_eq_true rfl) (Nat.le_of_ble_eq_true rfl) (Nat.le_of_ble_eq_true rfl) (s_X5_emit (u := u + c.length + ((chP B n (atP B n (if lm = 5 then 8 else 6) 0) (opT B n)) (nxP B n ps)).2.2.length) G hr ks.1 (by omega) (fun g73 o73 a73 b73 c73 => ?_))
          refine n_iinc2 dX5_readSum_76 (by decide) rfl (by omega) (fun r76 e76 => ?_)
          refine r_goto (t := 12) dX5_readSum_79 (by decide) ?_
          refine ih _ (i + 1) k2_z ((chP B n (atP B n (if lm = 5 then 8 else 6) 0) (opT B n)) (nxP B n ps)).2.1 (c ++ ((chP B n (atP B n (if lm = 5 then 8 else 6) 0) (opT B n)) (nxP B n ps)).2.2 ++ [(opS B n) ps]) g73 _ _ (by omega) (frM_tr ofs (frM_su o73 (by decide) (by decide))) (tkR_of ts o73 (by decide) (by decide) (by decide) (by decide)) (okR_ap (okR_ap hok (okR_cg ks wn rfl rfl)) ?_) (by omega) y2 ?_ (by omega) ?_ (by omega)
          · rw [List.length_append, ← Nat.add_assoc, hop]
            exact okR_one a73 b73 c73 (by omega)
          · rw [List.length_append, List.length_append, List.length_singleton]
            omega
          · exact (lpP_on (r := (0, ps, c)) rfl hop0 hq).symm.trans hR
        · have hv : ((chP B n (atP B n (if lm = 5 then 8 else 6) 0) (opT B n)) (nxP B n ps)) = chP B n (chP B n (atP B n (if lm = 5 then 8 else 6) 0) (opT B n)) (opS B n) p := (lpP_sub (k := k2_z) (r := (0, ps, c)) rfl hop0 hq).symm.trans hR
          refine r_iload2 dX5_readSum_12 ?_
          refine r_aloadR0 dX5_readSum_13 ?_
          refine m_getV (x := (f2_z A 1)) zf_RX5_15 rfl dX5_readSum_14 hr.1 (rfl) ?_
          refine t_icge (t := 82) dX5_readSum_17 (by decide) (fun h17 => False.elim (by omega)) (fun h17 => ?_)
          refine r_aloadR0 dX5_readSum_20 ?_
          refine m_getV (x := (f2_z A 4)) zf_RX5_25 rfl dX5_readSum_21 hr.1 (rfl) ?_
          refine n_bipush dX5_readSum_24 (by decide) (fun r24 e24_z => ?_)
          refine t_iceq (t := 38) dX5_readSum_26 (by decide) (fun h26 => ?_) (fun h26 => False.elim (by omega))
          refine r_aloadR0 dX5_readSum_38 ?_
          refine m_getV (x := (f2_z A 4)) zf_RX5_25 rfl dX5_readSum_39 hr.1 (rfl) ?_
          refine n_bipush dX5_readSum_42 (by decide) (fun r42 e42_z => ?_)
          refine t_icne (t := 53) dX5_readSum_44 (by decide) (fun h44 => False.elim (by omega)) (fun h44 => ?_)
          refine n_sipush dX5_readSum_47 (by decide) (fun r47 e47 => ?_)
          refine r_goto (t := 56) dX5_readSum_50 (by decide) ?_
          refine r_istore3 dX5_readSum_56 rfl ?_
          refine r_aloadR0 dX5_readSum_57 ?_
          refine q_callV0 zm_RX5_73 dX5_readSum_58 hr.1 (by decide) rfl (Nat.le_of_ble_eq_true rfl) (Nat.le_of_ble_eq_true rfl) (Nat.le_of_ble_eq_true rfl) (Nat.le_of_ble_eq_true rfl) (Nat.le_of_ble_eq_true rfl) (s_X5_next (p := teP B n ps) G hr kw ko htp2 htk2.2.1 (teP_le htk2.1) htk2.2.2.2.2.2.2 (fun v58 g58 o58 t58 => ?_))
          have t58 : tkR ca B n g58 v58 A (nxP B n ps) := t58
          have htpn := tpR_of htp2 ht o58 (by decide)
          have wn : g58 (A + 8) = f2_z (A + 8) := o58.2.1 8 (by decide) (by decide) (by decide)
          refine r_aloadR0 dX5_readSum_61 ?_
          refine r_iload1 dX5_readSum_62 ?_
          refine q_callV1 zm_RX5_191 dX5_readSum_63 hr.1 (by decide) rfl (Nat.le_of_ble_eq_true rfl) (Nat.le_of_ble_eq_true rfl) (Nat.le_of_ble_eq_true rfl) (Nat.le_of_ble_eq_true rfl) (Nat.le_of_ble_eq_true rfl) (s_X5_readTerm_0 (lm := lm) (u := u + c.length) G hr kw ko htpn t58 hx (by rw [o58.2.2 10 (by decide), ofr.2.2 10 (by decide)]; exact hol) (by rw [o58.2.2 9 (by decide)]; exact hok.1) (by omega) (fun rs vs gs os as bs => ?_))
          have as2 : ((chP B n (atP B n (if lm = 5 then 8 else 6) 0) (opT B n)) (nxP B n ps)).1 = 0 → rs.toInt = 1 ∧ tkR ca B n gs vs A ((chP B n (atP B n (if lm = 5 then 8 else 6) 0) (opT B n)) (nxP B n ps)).2.1 ∧ okR g58 gs A (u + c.length) ((chP B n (atP B n (if lm = 5 then 8 else 6) 0) (opT B n)) (nxP B n ps)).2.2 := as
          have bs2 : ((chP B n (atP B n (if lm = 5 then 8 else 6) 0) (opT B n)) (nxP B n ps)).1 ≠ 0 → rs.toInt = 0 ∧ flR gs A ((chP B n (atP B n (if lm = 5 then 8 else 6) 0) (opT B n)) (nxP B n ps)).1 ((chP B n (atP B n (if lm = 5 then 8 else 6) 0) (opT B n)) (nxP B n ps)).2.1 := bs
          have ofs : frM A [8] [2, 3, 4, 5, 9, 11, 12] f gs := frM_tr ofr (frM_tr (frM_su o58 (by decide) (by decide)) os)
          obtain ⟨cs, ls⟩ := bs2 hq
          refine t_ifne (t := 71) dX5_readSum_66 (by decide) (fun h66 => False.elim (by omega)) (fun h66 => ?_)
          refine n_iconst dX5_readSum_69 (by decide) (fun r69 e69 => ?_)
          refine m_zret dX5_readSum_70 rfl (by omega) (Nat.le_of_ble_eq_true rfl) (Nat.le_of_ble_eq_true rfl) ?_
          rw [← hv] at hQ
          exact hQ _ _ gs ofs (fun h_z => absurd h_z hq) (fun _ => ⟨e69, ls⟩)
      have hcn := hc_z
      clear hc_z
      by_cases hc_z : tkP B n ps = 45
      · have hop : (opS B n) ps = 2004 := (if_neg (by omega)).trans (if_pos hc_z)
        have hop0 : (opS B n) ps ≠ 0 := by rw [hop]; decide
        have hln := tk_lt (B := B) (n := n) (s := ps) (by rw [hc_z]; decide)
        obtain ⟨k2_z, rfl⟩ : ∃ k2_z, k = k2_z + 1 := ⟨k - 1, by omega⟩
        have hnx := nxP_gt (B := B) hln
        have gq := hgd _ hnx.2
        by_cases hq : ((chP B n (atP B n (if lm = 5 then 8 else 6) 0) (opT B n)) (nxP B n ps)).1 = 0
        · obtain ⟨y1, y2, y3, y4⟩ := gq.1 hq
          refine r_iload2 dX5_readSum_12 ?_
          refine r_aloadR0 dX5_readSum_13 ?_
          refine m_getV (x := (f2_z A 1)) zf_RX5_15 rfl dX5_readSum_14 hr.1 (rfl) ?_
          refine t_icge (t := 82) dX5_readSum_17 (by decide) (fun h17 => False.elim (by omega)) (fun h17 => ?_)
          refine r_aloadR0 dX5_readSum_20 ?_
          refine m_getV (x := (f2_z A 4)) zf_RX5_25 rfl dX5_readSum_21 hr.1 (rfl) ?_
          refine n_bipush dX5_readSum_24 (by decide) (fun r24 e24_z => ?_)
          refine t_iceq (t := 38) dX5_readSum_26 (by decide) (fun h26 => False.elim (by omega)) (fun h26 => ?_)
          refine r_aloadR0 dX5_readSum_29 ?_
          refine m_getV (x := (f2_z A 4)) zf_RX5_25 rfl dX5_readSum_30 hr.1 (rfl) ?_
          refine n_bipush dX5_readSum_33 (by decide) (fun r33 e33_z => ?_)
          refine t_icne (t := 82) dX5_readSum_35 (by decide) (fun h35 => False.elim (by omega)) (fun h35 => ?_)
          refine r_aloadR0 dX5_readSum_38 ?_
          refine m_getV (x := (f2_z A 4)) zf_RX5_25 rfl dX5_readSum_39 hr.1 (rfl) ?_
          refine n_bipush dX5_readSum_42 (by decide) (fun r42 e42_z => ?_)
          refine t_icne (t := 53) dX5_readSum_44 (by decide) (fun h44 => ?_) (fun h44 => False.elim (by omega))
          refine n_sipush dX5_readSum_53 (by decide) (fun r53 e53 => ?_)
          refine r_istore3 dX5_readSum_56 rfl ?_
          refine r_aloadR0 dX5_readSum_57 ?_
          refine q_callV0 zm_RX5_73 dX5_readSum_58 hr.1 (by decide) rfl (Nat.le_of_ble_eq_true rfl) (Nat.le_of_ble_eq_true rfl) (Nat.le_of_ble_eq_true rfl) (Nat.le_of_ble_eq_true rfl) (Nat.le_of_ble_eq_true rfl) (s_X5_next (p := teP B n ps) G hr kw ko htp2 htk2.2.1 (teP_le htk2.1) htk2.2.2.2.2.2.2 (fun v58 g58 o58 t58 => ?_))
          have t58 : tkR ca B n g58 v58 A (nxP B n ps) := t58
          have htpn := tpR_of htp2 ht o58 (by decide)
          have wn : g58 (A + 8) = f2_z (A + 8) := o58.2.1 8 (by decide) (by decide) (by decide)
          refine r_aloadR0 dX5_readSum_61 ?_
          refine r_iload1 dX5_readSum_62 ?_
          refine q_callV1 zm_RX5_191 dX5_readSum_63 hr.1 (by decide) rfl (Nat.le_of_ble_eq_true rfl) (Nat.le_of_ble_eq_true rfl) (Nat.le_of_ble_eq_true rfl) (Nat.le_of_ble_eq_true rfl) (Nat.le_of_ble_eq_true rfl) (s_X5_readTerm_0 (lm := lm) (u := u + c.length) G hr kw ko htpn t58 hx (by rw [o58.2.2 10 (by decide), ofr.2.2 10 (by decide)]; exact hol) (by rw [o58.2.2 9 (by decide)]; exact hok.1) (by omega) (fun rs vs gs os as bs => ?_))
          have as2 : ((chP B n (atP B n (if lm = 5 then 8 else 6) 0) (opT B n)) (nxP B n ps)).1 = 0 → rs.toInt = 1 ∧ tkR ca B n gs vs A ((chP B n (atP B n (if lm = 5 then 8 else 6) 0) (opT B n)) (nxP B n ps)).2.1 ∧ okR g58 gs A (u + c.length) ((chP B n (atP B n (if lm = 5 then 8 else 6) 0) (opT B n)) (nxP B n ps)).2.2 := as
          have bs2 : ((chP B n (atP B n (if lm = 5 then 8 else 6) 0) (opT B n)) (nxP B n ps)).1 ≠ 0 → rs.toInt = 0 ∧ flR gs A ((chP B n (atP B n (if lm = 5 then 8 else 6) 0) (opT B n)) (nxP B n ps)).1 ((chP B n (atP B n (if lm = 5 then 8 else 6) 0) (opT B n)) (nxP B n ps)).2.1 := bs
          have ofs : frM A [8] [2, 3, 4, 5, 9, 11, 12] f gs := frM_tr ofr (frM_tr (frM_su o58 (by decide) (by decide)) os)
          obtain ⟨cs, ts, ks⟩ := as2 hq
          refine t_ifne (t := 71) dX5_readSum_66 (by decide) (fun h66 => ?_) (fun h66 => False.elim (by omega))
          refine r_aloadR0 dX5_readSum_71 ?_
          refine r_iload3 dX5_readSum_72 ?_
          refine q_callV1 zm_RX5_173 dX5_readSum_73 hr.1 (by decide) rfl (Nat.le_of_ble_eq_true rfl) (Nat.le_of_ble_eq_true rfl) (Nat.le_of_ble_eq_true rfl) (Nat.le_of_ble_eq_true rfl) (Nat.le_of_ble_eq_true rfl) (s_X5_emit (u := u + c.length + ((chP B n (atP B n (if lm = 5 then 8 else 6) 0) (opT B n)) (nxP B n ps)).2.2.length) G hr ks.1 (by omega) (fun g73 o73 a73 b73 c73 => ?_))
          refine n_iinc2 dX5_readSum_76 (by decide) rfl (by omega) (fun r76 e76 => ?_)
          refine r_goto (t := 12) dX5_readSum_79 (by decide) ?_
          refine ih _ (i + 1) k2_z ((chP B n (atP B n (if lm = 5 then 8 else 6) 0) (opT B n)) (nxP B n ps)).2.1 (c ++ ((chP B n (atP B n (if lm = 5 then 8 else 6) 0) (opT B n)) (nxP B n ps)).2.2 ++ [(opS B n) ps]) g73 _ _ (by omega) (frM_tr ofs (frM_su o73 (by decide) (by decide))) (tkR_of ts o73 (by decide) (by decide) (by decide) (by decide)) (okR_ap (okR_ap hok (okR_cg ks wn rfl rfl)) ?_) (by omega) y2 ?_ (by omega) ?_ (by omega)
          · rw [List.length_append, ← Nat.add_assoc, hop]
            exact okR_one a73 b73 c73 (by omega)
          · rw [List.length_append, List.length_append, List.length_singleton]
            omega
          · exact (lpP_on (r := (0, ps, c)) rfl hop0 hq).symm.trans hR
        · have hv : ((chP B n (atP B n (if lm = 5 then 8 else 6) 0) (opT B n)) (nxP B n ps)) = chP B n (chP B n (atP B n (if lm = 5 then 8 else 6) 0) (opT B n)) (opS B n) p := (lpP_sub (k := k2_z) (r := (0, ps, c)) rfl hop0 hq).symm.trans hR
          refine r_iload2 dX5_readSum_12 ?_
          refine r_aloadR0 dX5_readSum_13 ?_
          refine m_getV (x := (f2_z A 1)) zf_RX5_15 rfl dX5_readSum_14 hr.1 (rfl) ?_
          refine t_icge (t := 82) dX5_readSum_17 (by decide) (fun h17 => False.elim (by omega)) (fun h17 => ?_)
          refine r_aloadR0 dX5_readSum_20 ?_
          refine m_getV (x := (f2_z A 4)) zf_RX5_25 rfl dX5_readSum_21 hr.1 (rfl) ?_
          refine n_bipush dX5_readSum_24 (by decide) (fun r24 e24_z => ?_)
          refine t_iceq (t := 38) dX5_readSum_26 (by decide) (fun h26 => False.elim (by omega)) (fun h26 => ?_)
          refine r_aloadR0 dX5_readSum_29 ?_
          refine m_getV (x := (f2_z A 4)) zf_RX5_25 rfl dX5_readSum_30 hr.1 (rfl) ?_
          refine n_bipush dX5_readSum_33 (by decide) (fun r33 e33_z => ?_)
          refine t_icne (t := 82) dX5_readSum_35 (by decide) (fun h35 => False.elim (by omega)) (fun h35 => ?_)
          refine r_aloadR0 dX5_readSum_38 ?_
          refine m_getV (x := (f2_z A 4)) zf_RX5_25 rfl dX5_readSum_39 hr.1 (rfl) ?_
          refine n_bipush dX5_readSum_42 (by decide) (fun r42 e42_z => ?_)
          refine t_icne (t := 53) dX5_readSum_44 (by decide) (fun h44 => ?_) (fun h44 => False.elim (by omega))
          refine n_sipush dX5_readSum_53 (by decide) (fun r53 e53 => ?_)
          refine r_istore3 dX5_readSum_56 rfl ?_
          refine r_aloadR0 dX5_readSum_57 ?_
          refine q_callV0 zm_RX5_73 dX5_readSum_58 hr.1 (by decide) rfl (Nat.le_of_ble_eq_true rfl) (Nat.le_of_ble_eq_true rfl) (Nat.le_of_ble_eq_true rfl) (Nat.le_of_ble_eq_true rfl) (Nat.le_of_ble_eq_true rfl) (s_X5_next (p := teP B n ps) G hr kw ko htp2 htk2.2.1 (teP_le htk2.1) htk2.2.2.2.2.2.2 (fun v58 g58 o58 t58 => ?_))
          have t58 : tkR ca B n g58 v58 A (nxP B n ps) := t58
          have htpn := tpR_of htp2 ht o58 (by decide)
          have wn : g58 (A + 8) = f2_z (A + 8) := o58.2.1 8 (by decide) (by decide) (by decide)
          refine r_aloadR0 dX5_readSum_61 ?_
          refine r_iload1 dX5_readSum_62 ?_
          refine q_callV1 zm_RX5_191 dX5_readSum_63 hr.1 (by decide) rfl (Nat.le_of_ble_eq_true rfl) (Nat.le_of_ble_eq_true rfl) (Nat.le_of_ble_eq_true rfl) (Nat.le_of_ble_eq_true rfl) (Nat.le_of_ble_eq_true rfl) (s_X5_readTerm_0 (lm := lm) (u := u + c.length) G hr kw ko htpn t58 hx (by rw [o58.2.2 10 (by decide), ofr.2.2 10 (by decide)]; exact hol) (by rw [o58.2.2 9 (by decide)]; exact hok.1) (by omega) (fun rs vs gs os as bs => ?_))
          have as2 : ((chP B n (atP B n (if lm = 5 then 8 else 6) 0) (opT B n)) (nxP B n ps)).1 = 0 → rs.toInt = 1 ∧ tkR ca B n gs vs A ((chP B n (atP B n (if lm = 5 then 8 else 6) 0) (opT B n)) (nxP B n ps)).2.1 ∧ okR g58 gs A (u + c.length) ((chP B n (atP B n (if lm = 5 then 8 else 6) 0) (opT B n)) (nxP B n ps)).2.2 := as
          have bs2 : ((chP B n (atP B n (if lm = 5 then 8 else 6) 0) (opT B n)) (nxP B n ps)).1 ≠ 0 → rs.toInt = 0 ∧ flR gs A ((chP B n (atP B n (if lm = 5 then 8 else 6) 0) (opT B n)) (nxP B n ps)).1 ((chP B n (atP B n (if lm = 5 then 8 else 6) 0) (opT B n)) (nxP B n ps)).2.1 := bs
          have ofs : frM A [8] [2, 3, 4, 5, 9, 11, 12] f gs := frM_tr ofr (frM_tr (frM_su o58 (by decide) (by decide)) os)
          obtain ⟨cs, ls⟩ := bs2 hq
          refine t_ifne (t := 71) dX5_readSum_66 (by decide) (fun h66 => False.elim (by omega)) (fun h66 => ?_)
          refine n_iconst dX5_readSum_69 (by decide) (fun r69 e69 => ?_)
          refine m_zret dX5_readSum_70 rfl (by omega) (Nat.le_of_ble_eq_true rfl) (Nat.le_of_ble_eq_true rfl) ?_
          rw [← hv] at hQ
          exact hQ _ _ gs ofs (fun h_z => absurd h_z hq) (fun _ => ⟨e69, ls⟩)
      have hop : (opS B n) ps = 0 := (if_neg hcn).trans (if_neg hc_z)
      have hv := (lpP_end (B := B) (n := n) (k := k) (sub := (chP B n (atP B n (if lm = 5 then 8 else 6) 0) (opT B n))) (r := (0, ps, c)) hop).symm.trans hR
      refine r_iload2 dX5_readSum_12 ?_
      refine r_aloadR0 dX5_readSum_13 ?_
      refine m_getV (x := (f2_z A 1)) zf_RX5_15 rfl dX5_readSum_14 hr.1 (rfl) ?_
      refine t_icge (t := 82) dX5_readSum_17 (by decide) (fun h17 => False.elim (by omega)) (fun h17 => ?_)
      refine r_aloadR0 dX5_readSum_20 ?_
      refine m_getV (x := (f2_z A 4)) zf_RX5_25 rfl dX5_readSum_21 hr.1 (rfl) ?_
      refine n_bipush dX5_readSum_24 (by decide) (fun r24 e24_z => ?_)
      refine t_iceq (t := 38) dX5_readSum_26 (by decide) (fun h26 => False.elim (by omega)) (fun h26 => ?_)
      refine r_aloadR0 dX5_readSum_29 ?_
      refine m_getV (x := (f2_z A 4)) zf_RX5_25 rfl dX5_readSum_30 hr.1 (rfl) ?_
      refine n_bipush dX5_readSum_33 (by decide) (fun r33 e33_z => ?_)
      refine t_icne (t := 82) dX5_readSum_35 (by decide) (fun h35 => ?_) (fun h35 => False.elim (by omega))
      refine n_iconst dX5_readSum_82 (by decide) (fun r82 e82 => ?_)
      refine m_zret dX5_readSum_83 rfl (by omega) (Nat.le_of_ble_eq_true rfl) (Nat.le_of_ble_eq_true rfl) ?_
      rw [← hv] at hQ
      exact hQ _ _ f2_z ofr (fun _ => ⟨e82, htk2, hok⟩) (fun h_z => absurd rfl h_z)
  have gp := hgd p hpn
  by_cases hq : ((chP B n (atP B n (if lm = 5 then 8 else 6) 0) (opT B n)) p).1 = 0
  · obtain ⟨y1, y2, y3, y4⟩ := gp.1 hq
    have hz : ((chP B n (atP B n (if lm = 5 then 8 else 6) 0) (opT B n)) p) = (0, ((chP B n (atP B n (if lm = 5 then 8 else 6) 0) (opT B n)) p).2.1, ((chP B n (atP B n (if lm = 5 then 8 else 6) 0) (opT B n)) p).2.2) := Prod.ext hq rfl
    refine r_aloadR0 dX5_readSum_0 ?_
    refine r_iload1 dX5_readSum_1 ?_
    refine q_callV1 zm_RX5_191 dX5_readSum_2 hr.1 (by decide) rfl (Nat.le_of_ble_eq_true rfl) (Nat.le_of_ble_eq_true rfl) (Nat.le_of_ble_eq_true rfl) (Nat.le_of_ble_eq_true rfl) (Nat.le_of_ble_eq_true rfl) (s_X5_readTerm_0 G hr kw ko htp htk hx hol hu hup (fun r2 v2 g2 o2 a2 b2 => ?_))
    have a2b : ((chP B n (atP B n (if lm = 5 then 8 else 6) 0) (opT B n)) p).1 = 0 → r2.toInt = 1 ∧ tkR ca B n g2 v2 A ((chP B n (atP B n (if lm = 5 then 8 else 6) 0) (opT B n)) p).2.1 ∧ okR f g2 A u ((chP B n (atP B n (if lm = 5 then 8 else 6) 0) (opT B n)) p).2.2 := a2
    have b2b : ((chP B n (atP B n (if lm = 5 then 8 else 6) 0) (opT B n)) p).1 ≠ 0 → r2.toInt = 0 ∧ flR g2 A ((chP B n (atP B n (if lm = 5 then 8 else 6) 0) (opT B n)) p).1 ((chP B n (atP B n (if lm = 5 then 8 else 6) 0) (opT B n)) p).2.1 := b2
    obtain ⟨c2_z, t2, k2_z⟩ := a2b hq
    refine t_ifne (t := 10) dX5_readSum_5 (by decide) (fun h5 => ?_) (fun h5 => False.elim (by omega))
    refine n_iconst dX5_readSum_10 (by decide) (fun r10 e10_z => ?_)
    refine r_istore2 dX5_readSum_11 rfl ?_
    exact lp (n + 1) _ 0 n ((chP B n (atP B n (if lm = 5 then 8 else 6) 0) (opT B n)) p).2.1 ((chP B n (atP B n (if lm = 5 then 8 else 6) 0) (opT B n)) p).2.2 g2 _ _ (by omega) o2 t2 k2_z (by omega) y2 y3 (by omega) (by rw [← hz]; rfl) (Nat.lt_succ_self n)
  · have hv : chP B n (chP B n (atP B n (if lm = 5 then 8 else 6) 0) (opT B n)) (opS B n) p = ((chP B n (atP B n (if lm = 5 then 8 else 6) 0) (opT B n)) p) := lpP_bad hq
    rw [hv] at hQ
    refine r_aloadR0 dX5_readSum_0 ?_
    refine r_iload1 dX5_readSum_1 ?_
    refine q_callV1 zm_RX5_191 dX5_readSum_2 hr.1 (by decide) rfl (Nat.le_of_ble_eq_true rfl) (Nat.le_of_ble_eq_true rfl) (Nat.le_of_ble_eq_true rfl) (Nat.le_of_ble_eq_true rfl) (Nat.le_of_ble_eq_true rfl) (s_X5_readTerm_0 G hr kw ko htp htk hx hol hu hup (fun r2 v2 g2 o2 a2 b2 => ?_))
    have a2b : ((chP B n (atP B n (if lm = 5 then 8 else 6) 0) (opT B n)) p).1 = 0 → r2.toInt = 1 ∧ tkR ca B n g2 v2 A ((chP B n (atP B n (if lm = 5 then 8 else 6) 0) (opT B n)) p).2.1 ∧ okR f g2 A u ((chP B n (atP B n (if lm = 5 then 8 else 6) 0) (opT B n)) p).2.2 := a2
    have b2b : ((chP B n (atP B n (if lm = 5 then 8 else 6) 0) (opT B n)) p).1 ≠ 0 → r2.toInt = 0 ∧ flR g2 A ((chP B n (atP B n (if lm = 5 then 8 else 6) 0) (opT B n)) p).1 ((chP B n (atP B n (if lm = 5 then 8 else 6) 0) (opT B n)) p).2.1 := b2
    obtain ⟨c2_z, l2⟩ := b2b hq
    refine t_ifne (t := 10) dX5_readSum_5 (by decide) (fun h5 => False.elim (by omega)) (fun h5 => ?_)
    refine n_iconst dX5_readSum_8 (by decide) (fun r8 e8 => ?_)
    refine m_zret dX5_readSum_9 rfl (by omega) (Nat.le_of_ble_eq_true rfl) (Nat.le_of_ble_eq_true rfl) ?_
    exact hQ _ _ g2 o2 (fun h_z => absurd h_z hq) (fun _ => ⟨e8, l2⟩)
set_option maxHeartbeats 4000000 in
set_option maxRecDepth 100000 in
theorem s_X5_readAtom_1 {g : zGT} {w : zW} {f : Nat → Nat → Int32} {j : Nat → Nat → Int64} {A tq nq : Nat} {v : Option Nat} {B : Nat → Nat} {n : Nat} {ca wa wv : Nat → Nat} {kq ta sm gq gv : Nat} {p lm u : Nat} {x : Int32} {Q : Option Value → zW → Prop} {QX : String → zW → Prop} (G : zGok g) (hr : shRd w A tq nq) (kw : kWd g wa wv kq) (ko : kWo g ca wa wv ta sm gq gv) (htp : tpR B n f A tq) (htk : tkR ca B n f v A p) (hx : x.toInt = 5) (hol : (f A 10).toInt = if lm = 5 then 1 else 0) (hu : (f A 9).toInt = (u : Nat)) (hup : u ≤ p) (hQ : ∀ (b : Int32) v2 f2_z, frM A [8] [2, 3, 4, 5, 9, 11, 12] f f2_z → ((atP B n (if lm = 5 then 8 else 6) 1 p).1 = 0 → b.toInt = 1 ∧ tkR ca B n f2_z v2 A (atP B n (if lm = 5 then 8 else 6) 1 p).2.1 ∧ okR f f2_z A u (atP B n (if lm = 5 then 8 else 6) 1 p).2.2) → ((atP B n (if lm = 5 then 8 else 6) 1 p).1 ≠ 0 → b.toInt = 0 ∧ flR f2_z A (atP B n (if lm = 5 then 8 else 6) 1 p).1 (atP B n (if lm = 5 then 8 else 6) 1 p).2.1) → Q (some (.int b)) (zM (wW w A v2) f2_z j)) : zC g 14 yX5_readAtom cX5_readAtom 3 (some .boolean) [.ref A, .int x] (zM (wW w A v) f j) (0, 0) Q QX := by
  refine zC_of G (by decide +kernel) (Nat.le_of_ble_eq_true rfl) ?_
  have ht := hr.2.2.2.2.2.2
  have h4 := htk.2.2.2.1
  have hpn := htk.1
  have h900 := htp.2.1
  by_cases hp : tkP B n p = 40
  · have hv : atP B n (if lm = 5 then 8 else 6) 1 p = clP B n 41 (suP B n (atP B n (if lm = 5 then 8 else 6) 0) (nxP B n p)) := if_pos hp
    rw [hv] at hQ
    have hln := tk_lt (B := B) (n := n) (s := p) (by rw [hp]; decide)
    have hnx := nxP_gt (B := B) hln
    by_cases hq : (suP B n (atP B n (if lm = 5 then 8 else 6) 0) (nxP B n p)).1 = 0
    · by_cases h41 : tkP B n (suP B n (atP B n (if lm = 5 then 8 else 6) 0) (nxP B n p)).2.1 = 41
      · have hv2 : clP B n 41 (suP B n (atP B n (if lm = 5 then 8 else 6) 0) (nxP B n p)) = (0, nxP B n (suP B n (atP B n (if lm = 5 then 8 else 6) 0) (nxP B n p)).2.1, (suP B n (atP B n (if lm = 5 then 8 else 6) 0) (nxP B n p)).2.2) := (if_neg (not_not_intro hq)).trans (if_pos h41)
        rw [hv2] at hQ
        refine r_aloadR0 dX5_readAtom_0 ?_
        refine m_getV (x := (f A 4)) zf_RX5_25 rfl dX5_readAtom_1 hr.1 (rfl) ?_
        refine n_bipush dX5_readAtom_4 (by decide) (fun r4 e4_z => ?_)
        refine t_icne (t := 42) dX5_readAtom_6 (by decide) (fun h6 => False.elim (by omega)) (fun h6 => ?_)
        refine r_aloadR0 dX5_readAtom_9 ?_
        refine r_iload1 dX5_readAtom_10 ?_
        refine q_callV1 zm_RX5_185 dX5_readAtom_11 hr.1 (by decide) rfl (Nat.le_of_ble_eq_true rfl) (Nat.le_of_ble_eq_true rfl) (Nat.le_of_ble_eq_true rfl) (Nat.le_of_ble_eq_true rfl) (Nat.le_of_ble_eq_true rfl) (s_X5_goDeeper (d := 5) G hr kw ko htp hx htk (fun r11 v11 g11 o11 a11 b11 => ?_))
        obtain ⟨c11, t11⟩ := a11 (by decide)
        have htp11 := tpR_of htp ht o11 (by decide)
        have w11 : g11 (A + 8) = f (A + 8) := o11.2.1 8 (by decide) (by decide) (by decide)
        refine t_ifeq (t := 40) dX5_readAtom_14 (by decide) (fun h14 => False.elim (by omega)) (fun h14 => ?_)
        refine r_aloadR0 dX5_readAtom_17 ?_
        refine r_iload1 dX5_readAtom_18 ?_
        refine n_iconst dX5_readAtom_19 (by decide) (fun r19 e19_z => ?_)
        refine n_iadd dX5_readAtom_20 (by omega) (fun r20 e20 => ?_)
        refine q_callV1 zm_RX5_146 dX5_readAtom_21 hr.1 (by decide) rfl (Nat.le_of_ble_eq_true rfl) (Nat.le_of_ble_eq_true rfl) (Nat.le_of_ble_eq_true rfl) (Nat.le_of_ble_eq_true rfl) (Nat.le_of_ble_eq_true rfl) (s_X5_readSum_0 (lm := lm) (u := u) G hr kw ko htp11 t11 (by omega) (by rw [o11.2.2 10 (by decide)]; exact hol) (by rw [o11.2.2 9 (by decide)]; exact hu) (by omega) (fun r21 v21 g21 o21 a21 b21 => ?_))
        have a21b : (suP B n (atP B n (if lm = 5 then 8 else 6) 0) (nxP B n p)).1 = 0 → r21.toInt = 1 ∧ tkR ca B n g21 v21 A (suP B n (atP B n (if lm = 5 then 8 else 6) 0) (nxP B n p)).2.1 ∧ okR g11 g21 A u (suP B n (atP B n (if lm = 5 then 8 else 6) 0) (nxP B n p)).2.2 := a21
        have b21b : (suP B n (atP B n (if lm = 5 then 8 else 6) 0) (nxP B n p)).1 ≠ 0 → r21.toInt = 0 ∧ flR g21 A (suP B n (atP B n (if lm = 5 then 8 else 6) 0) (nxP B n p)).1 (suP B n (atP B n (if lm = 5 then 8 else 6) 0) (nxP B n p)).2.1 := b21
        have of21 : frM A [8] [2, 3, 4, 5, 9, 11, 12] f g21 := frM_tr (frM_su o11 (by decide) (by decide)) o21
        obtain ⟨c21, t21, k21⟩ := a21b hq
        refine t_ifeq (t := 40) dX5_readAtom_24 (by decide) (fun h24 => False.elim (by omega)) (fun h24 => ?_)
        refine r_aloadR0 dX5_readAtom_27 ?_
        refine n_bipush dX5_readAtom_28 (by decide) (fun r28 e28_z => ?_)
        refine q_callV1 zm_RX5_102 dX5_readAtom_30 hr.1 (by decide) rfl (Nat.le_of_ble_eq_true rfl) (Nat.le_of_ble_eq_true rfl) (Nat.le_of_ble_eq_true rfl) (Nat.le_of_ble_eq_true rfl) (Nat.le_of_ble_eq_true rfl) (s_X5_takeSign (s := (suP B n (atP B n (if lm = 5 then 8 else 6) 0) (nxP B n p)).2.1) (c := 41) G hr kw ko (tpR_of htp ht of21 (by decide)) e28_z t21 (fun r30 v30 g30 o30 a30 b30 => ?_))
        obtain ⟨c30, t30⟩ := a30 h41
        refine t_ifeq (t := 40) dX5_readAtom_33 (by decide) (fun h33 => False.elim (by omega)) (fun h33 => ?_)
        refine n_iconst dX5_readAtom_36 (by decide) (fun r36 e36 => ?_)
        refine r_goto (t := 41) dX5_readAtom_37 (by decide) ?_
        refine m_zret dX5_readAtom_41 rfl (by omega) (Nat.le_of_ble_eq_true rfl) (Nat.le_of_ble_eq_true rfl) ?_
        exact hQ _ _ g30 (frM_tr of21 (frM_su o30 (by decide) (by decide))) (fun _ => ⟨e36, t30, okR_cg k21 w11 (o30.2.1 8 (by decide) (by decide) (by decide)) (o30.2.2 9 (by decide))⟩) (fun h_z => absurd rfl h_z)
      · have hv2 : clP B n 41 (suP B n (atP B n (if lm = 5 then 8 else 6) 0) (nxP B n p)) = (baP B n (suP B n (atP B n (if lm = 5 then 8 else 6) 0) (nxP B n p)).2.1, (suP B n (atP B n (if lm = 5 then 8 else 6) 0) (nxP B n p)).2.1, []) := (if_neg (not_not_intro hq)).trans (if_neg h41)
        rw [hv2] at hQ
        refine r_aloadR0 dX5_readAtom_0 ?_
        refine m_getV (x := (f A 4)) zf_RX5_25 rfl dX5_readAtom_1 hr.1 (rfl) ?_
        refine n_bipush dX5_readAtom_4 (by decide) (fun r4 e4_z => ?_)
        refine t_icne (t := 42) dX5_readAtom_6 (by decide) (fun h6 => False.elim (by omega)) (fun h6 => ?_)
        refine r_aloadR0 dX5_readAtom_9 ?_
        refine r_iload1 dX5_readAtom_10 ?_
        refine q_callV1 zm_RX5_185 dX5_readAtom_11 hr.1 (by decide) rfl (Nat.le_of_ble_eq_true rfl) (Nat.le_of_ble_eq_true rfl) (Nat.le_of_ble_eq_true rfl) (Nat.le_of_ble_eq_true rfl) (Nat.le_of_ble_eq_true rfl) (s_X5_goDeeper (d := 5) G hr kw ko htp hx htk (fun r11 v11 g11 o11 a11 b11 => ?_))
        obtain ⟨c11, t11⟩ := a11 (by decide)
        have htp11 := tpR_of htp ht o11 (by decide)
        have w11 : g11 (A + 8) = f (A + 8) := o11.2.1 8 (by decide) (by decide) (by decide)
        refine t_ifeq (t := 40) dX5_readAtom_14 (by decide) (fun h14 => False.elim (by omega)) (fun h14 => ?_)
        refine r_aloadR0 dX5_readAtom_17 ?_
        refine r_iload1 dX5_readAtom_18 ?_
        refine n_iconst dX5_readAtom_19 (by decide) (fun r19 e19_z => ?_)
        refine n_iadd dX5_readAtom_20 (by omega) (fun r20 e20 => ?_)
        refine q_callV1 zm_RX5_146 dX5_readAtom_21 hr.1 (by decide) rfl (Nat.le_of_ble_eq_true rfl) (Nat.le_of_ble_eq_true rfl) (Nat.le_of_ble_eq_true rfl) (Nat.le_of_ble_eq_true rfl) (Nat.le_of_ble_eq_true rfl) (s_X5_readSum_0 (lm := lm) (u := u) G hr kw ko htp11 t11 (by omega) (by rw [o11.2.2 10 (by decide)]; exact hol) (by rw [o11.2.2 9 (by decide)]; exact hu) (by omega) (fun r21 v21 g21 o21 a21 b21 => ?_))
        have a21b : (suP B n (atP B n (if lm = 5 then 8 else 6) 0) (nxP B n p)).1 = 0 → r21.toInt = 1 ∧ tkR ca B n g21 v21 A (suP B n (atP B n (if lm = 5 then 8 else 6) 0) (nxP B n p)).2.1 ∧ okR g11 g21 A u (suP B n (atP B n (if lm = 5 then 8 else 6) 0) (nxP B n p)).2.2 := a21
        have b21b : (suP B n (atP B n (if lm = 5 then 8 else 6) 0) (nxP B n p)).1 ≠ 0 → r21.toInt = 0 ∧ flR g21 A (suP B n (atP B n (if lm = 5 then 8 else 6) 0) (nxP B n p)).1 (suP B n (atP B n (if lm = 5 then 8 else 6) 0) (nxP B n p)).2.1 := b21
        have of21 : frM A [8] [2, 3, 4, 5, 9, 11, 12] f g21 := frM_tr (frM_su o11 (by decide) (by decide)) o21
        obtain ⟨c21, t21, k21⟩ := a21b hq
        refine t_ifeq (t := 40) dX5_readAtom_24 (by decide) (fun h24 => False.elim (by omega)) (fun h24 => ?_)
        refine r_aloadR0 dX5_readAtom_27 ?_
        refine n_bipush dX5_readAtom_28 (by decide) (fun r28 e28_z => ?_)
        refine q_callV1 zm_RX5_102 dX5_readAtom_30 hr.1 (by decide) rfl (Nat.le_of_ble_eq_true rfl) (Nat.le_of_ble_eq_true rfl) (Nat.le_of_ble_eq_true rfl) (Nat.le_of_ble_eq_true rfl) (Nat.le_of_ble_eq_true rfl) (s_X5_takeSign (s := (suP B n (atP B n (if lm = 5 then 8 else 6) 0) (nxP B n p)).2.1) (c := 41) G hr kw ko (tpR_of htp ht of21 (by decide)) e28_z t21 (fun r30 v30 g30 o30 a30 b30 => ?_))
        obtain ⟨c30, l30⟩ := b30 h41
        refine t_ifeq (t := 40) dX5_readAtom_33 (by decide) (fun h33 => ?_) (fun h33 => False.elim (by omega))
        refine n_iconst dX5_readAtom_40 (by decide) (fun r40 e40 => ?_)
        refine m_zret dX5_readAtom_41 rfl (by omega) (Nat.le_of_ble_eq_true rfl) (Nat.le_of_ble_eq_true rfl) ?_
        exact hQ _ _ g30 (frM_tr of21 (frM_su o30 (by decide) (by decide))) (fun h_z => absurd h_z ba_bd.1) (fun _ => ⟨e40, l30⟩)
    · have hv2 : clP B n 41 (suP B n (atP B n (if lm = 5 then 8 else 6) 0) (nxP B n p)) = (suP B n (atP B n (if lm = 5 then 8 else 6) 0) (nxP B n p)) := if_pos hq
      rw [hv2] at hQ
      refine r_aloadR0 dX5_readAtom_0 ?_
      refine m_getV (x := (f A 4)) zf_RX5_25 rfl dX5_readAtom_1 hr.1 (rfl) ?_
      refine n_bipush dX5_readAtom_4 (by decide) (fun r4 e4_z => ?_)
      refine t_icne (t := 42) dX5_readAtom_6 (by decide) (fun h6 => False.elim (by omega)) (fun h6 => ?_)
      refine r_aloadR0 dX5_readAtom_9 ?_
      refine r_iload1 dX5_readAtom_10 ?_
      refine q_callV1 zm_RX5_185 dX5_readAtom_11 hr.1 (by decide) rfl (Nat.le_of_ble_eq_true rfl) (Nat.le_of_ble_eq_true rfl) (Nat.le_of_ble_eq_true rfl) (Nat.le_of_ble_eq_true rfl) (Nat.le_of_ble_eq_true rfl) (s_X5_goDeeper (d := 5) G hr kw ko htp hx htk (fun r11 v11 g11 o11 a11 b11 => ?_))
      obtain ⟨c11, t11⟩ := a11 (by decide)
      have htp11 := tpR_of htp ht o11 (by decide)
      have w11 : g11 (A + 8) = f (A + 8) := o11.2.1 8 (by decide) (by decide) (by decide)
      refine t_ifeq (t := 40) dX5_readAtom_14 (by decide) (fun h14 => False.elim (by omega)) (fun h14 => ?_)
      refine r_aloadR0 dX5_readAtom_17 ?_
      refine r_iload1 dX5_readAtom_18 ?_
      refine n_iconst dX5_readAtom_19 (by decide) (fun r19 e19_z => ?_)
      refine n_iadd dX5_readAtom_20 (by omega) (fun r20 e20 => ?_)
      refine q_callV1 zm_RX5_146 dX5_readAtom_21 hr.1 (by decide) rfl (Nat.le_of_ble_eq_true rfl) (Nat.le_of_ble_eq_true rfl) (Nat.le_of_ble_eq_true rfl) (Nat.le_of_ble_eq_true rfl) (Nat.le_of_ble_eq_true rfl) (s_X5_readSum_0 (lm := lm) (u := u) G hr kw ko htp11 t11 (by omega) (by rw [o11.2.2 10 (by decide)]; exact hol) (by rw [o11.2.2 9 (by decide)]; exact hu) (by omega) (fun r21 v21 g21 o21 a21 b21 => ?_))
      have a21b : (suP B n (atP B n (if lm = 5 then 8 else 6) 0) (nxP B n p)).1 = 0 → r21.toInt = 1 ∧ tkR ca B n g21 v21 A (suP B n (atP B n (if lm = 5 then 8 else 6) 0) (nxP B n p)).2.1 ∧ okR g11 g21 A u (suP B n (atP B n (if lm = 5 then 8 else 6) 0) (nxP B n p)).2.2 := a21
      have b21b : (suP B n (atP B n (if lm = 5 then 8 else 6) 0) (nxP B n p)).1 ≠ 0 → r21.toInt = 0 ∧ flR g21 A (suP B n (atP B n (if lm = 5 then 8 else 6) 0) (nxP B n p)).1 (suP B n (atP B n (if lm = 5 then 8 else 6) 0) (nxP B n p)).2.1 := b21
      have of21 : frM A [8] [2, 3, 4, 5, 9, 11, 12] f g21 := frM_tr (frM_su o11 (by decide) (by decide)) o21
      obtain ⟨c21, l21⟩ := b21b hq
      refine t_ifeq (t := 40) dX5_readAtom_24 (by decide) (fun h24 => ?_) (fun h24 => False.elim (by omega))
      refine n_iconst dX5_readAtom_40 (by decide) (fun r40 e40 => ?_)
      refine m_zret dX5_readAtom_41 rfl (by omega) (Nat.le_of_ble_eq_true rfl) (Nat.le_of_ble_eq_true rfl) ?_
      exact hQ _ _ g21 of21 (fun h_z => absurd h_z hq) (fun _ => ⟨e40, l21⟩)
  have hv0 : atP B n (if lm = 5 then 8 else 6) 1 p = a1P B n (if lm = 5 then 8 else 6) p := if_neg hp
  rw [hv0] at hQ
  by_cases h2 : tkP B n p = 2
  · have hv : a1P B n (if lm = 5 then 8 else 6) p = (0, nxP B n p, [nmP B n p]) := a1_num h2
    rw [hv] at hQ
    have hln := (tk2 h2).1
    have h5 := htk.2.2.2.2.1 h2
    refine r_aloadR0 dX5_readAtom_0 ?_
    refine m_getV (x := (f A 4)) zf_RX5_25 rfl dX5_readAtom_1 hr.1 (rfl) ?_
    refine n_bipush dX5_readAtom_4 (by decide) (fun r4 e4_z => ?_)
    refine t_icne (t := 42) dX5_readAtom_6 (by decide) (fun h6 => ?_) (fun h6 => False.elim (by omega))
    refine r_aloadR0 dX5_readAtom_42 ?_
    refine m_getV (x := (f A 4)) zf_RX5_25 rfl dX5_readAtom_43 hr.1 (rfl) ?_
    refine n_iconst dX5_readAtom_46 (by decide) (fun r46 e46 => ?_)
    refine t_icne (t := 64) dX5_readAtom_47 (by decide) (fun h47 => False.elim (by omega)) (fun h47 => ?_)
    refine r_aloadR0 dX5_readAtom_50 ?_
    refine r_aloadR0 dX5_readAtom_51 ?_
    refine m_getV (x := (f A 5)) zf_RX5_28 rfl dX5_readAtom_52 hr.1 (rfl) ?_
    refine q_callV1 zm_RX5_173 dX5_readAtom_55 hr.1 (by decide) rfl (Nat.le_of_ble_eq_true rfl) (Nat.le_of_ble_eq_true rfl) (Nat.le_of_ble_eq_true rfl) (Nat.le_of_ble_eq_true rfl) (Nat.le_of_ble_eq_true rfl) (s_X5_emit (u := u) G hr hu (by omega) (fun g55 o55 a55 b55 c55 => ?_))
    have t55 := tkR_of htk o55 (by decide) (by decide) (by decide) (by decide)
    have htp55 := tpR_of htp ht o55 (by decide)
    refine r_aloadR0 dX5_readAtom_58 ?_
    refine q_callV0 zm_RX5_73 dX5_readAtom_59 hr.1 (by decide) rfl (Nat.le_of_ble_eq_true rfl) (Nat.le_of_ble_eq_true rfl) (Nat.le_of_ble_eq_true rfl) (Nat.le_of_ble_eq_true rfl) (Nat.le_of_ble_eq_true rfl) (s_X5_next (p := teP B n p) G hr kw ko htp55 t55.2.1 (teP_le t55.1) t55.2.2.2.2.2.2 (fun v59 g59 o59 t59 => ?_))
    have t59 : tkR ca B n g59 v59 A (nxP B n p) := t59
    refine n_iconst dX5_readAtom_62 (by decide) (fun r62 e62 => ?_)
    refine m_zret dX5_readAtom_63 rfl (by omega) (Nat.le_of_ble_eq_true rfl) (Nat.le_of_ble_eq_true rfl) ?_
    exact hQ _ _ g59 (frM_tr (frM_su o55 (by decide) (by decide)) (frM_su o59 (by decide) (by decide))) (fun _ => ⟨e62, t59, okR_cg (okR_one a55 b55 c55 h5) rfl (o59.2.1 8 (by decide) (by decide) (by decide)) (o59.2.2 9 (by decide))⟩) (fun h_z => absurd rfl h_z)
  have hwl := wd_le (B := B) (n := n) (s := p)
  have f1_z := fcI_ne (wdP B n p) (by omega)
  have f2_z := fcI_eq (wdP B n p) (by omega)
  have f3_z := fcP_a (wdP B n p) (by omega)
  have f9_z := fcP_9 (wdP B n p) (by omega)
  by_cases hf : tkP B n p = 3 ∧ fcP (wdP B n p) < (if lm = 5 then 8 else 6)
  · have hv : a1P B n (if lm = 5 then 8 else 6) p = (0, nxP B n p, [1000 + fcP (wdP B n p)]) := a1_fact hf
    rw [hv] at hQ
    have hv3 := htk.2.2.2.2.2.1 hf.1
    have hf8 : fcP (wdP B n p) < 8 := Nat.lt_of_lt_of_le hf.2 (by split <;> decide)
    have hln := tk_lt (B := B) (n := n) (s := p) (by rw [hf.1]; decide)
    have g3_z := f2_z (by omega)
    have n1 : (fcI (wdP B n p)).toInt ≠ -1 := fun h_z => by have := f1_z.mp h_z; omega
    by_cases h5l : lm = 5
    · rw [if_pos h5l] at hol
      refine r_aloadR0 dX5_readAtom_0 ?_
      refine m_getV (x := (f A 4)) zf_RX5_25 rfl dX5_readAtom_1 hr.1 (rfl) ?_
      refine n_bipush dX5_readAtom_4 (by decide) (fun r4 e4_z => ?_)
      refine t_icne (t := 42) dX5_readAtom_6 (by decide) (fun h6 => ?_) (fun h6 => False.elim (by omega))
      refine r_aloadR0 dX5_readAtom_42 ?_
      refine m_getV (x := (f A 4)) zf_RX5_25 rfl dX5_readAtom_43 hr.1 (rfl) ?_
      refine n_iconst dX5_readAtom_46 (by decide) (fun r46 e46 => ?_)
      refine t_icne (t := 64) dX5_readAtom_47 (by decide) (fun h47 => ?_) (fun h47 => False.elim (by omega))
      refine r_aloadR0 dX5_readAtom_64 ?_
      refine m_getV (x := (f A 4)) zf_RX5_25 rfl dX5_readAtom_65 hr.1 (rfl) ?_
      refine n_iconst dX5_readAtom_68 (by decide) (fun r68 e68 => ?_)
      refine t_icne (t := 104) dX5_readAtom_69 (by decide) (fun h69 => False.elim (by omega)) (fun h69 => ?_)
      refine r_aloadR0 dX5_readAtom_72 ?_
      refine m_getR (q := (ca (wdP B n p))) zf_RX5_37 rfl dX5_readAtom_73 hr.1 (zu_at.trans hv3) ?_
      refine k_getf (fun U hU => (ko.2.2.2.2.1 _ (Nat.lt_succ_of_le wd_le) U hU).2.2.1) zg_RX5_197 dX5_readAtom_76 ?_
      refine n_iconst dX5_readAtom_79 (by decide) (fun r79 e79 => ?_)
      refine t_iceq (t := 104) dX5_readAtom_80 (by decide) (fun h80 => False.elim (by omega)) (fun h80 => ?_)
      refine r_aloadR0 dX5_readAtom_83 ?_
      refine m_getV (x := (f A 10)) zf_RX5_54 rfl dX5_readAtom_84 hr.1 (rfl) ?_
      refine t_ifne (t := 100) dX5_readAtom_87 (by decide) (fun h87 => ?_) (fun h87 => False.elim (by omega))
      refine n_iconst dX5_readAtom_100 (by decide) (fun r100 e100_z => ?_)
      refine r_goto (t := 105) dX5_readAtom_101 (by decide) ?_
      refine r_istore2 dX5_readAtom_105 rfl ?_
      refine r_iload2 dX5_readAtom_106 ?_
      refine t_ifne (t := 115) dX5_readAtom_107 (by decide) (fun h107 => ?_) (fun h107 => False.elim (by omega))
      refine r_aloadR0 dX5_readAtom_115 ?_
      refine n_sipush dX5_readAtom_116 (by decide) (fun r116 e116 => ?_)
      refine r_aloadR0 dX5_readAtom_119 ?_
      refine m_getR (q := (ca (wdP B n p))) zf_RX5_37 rfl dX5_readAtom_120 hr.1 (zu_at.trans hv3) ?_
      refine k_getf (fun U hU => (ko.2.2.2.2.1 _ (Nat.lt_succ_of_le wd_le) U hU).2.2.1) zg_RX5_197 dX5_readAtom_123 ?_
      refine n_iadd dX5_readAtom_126 (by omega) (fun r126 e126 => ?_)
      refine q_callV1 zm_RX5_173 dX5_readAtom_127 hr.1 (by decide) rfl (Nat.le_of_ble_eq_true rfl) (Nat.le_of_ble_eq_true rfl) (Nat.le_of_ble_eq_true rfl) (Nat.le_of_ble_eq_true rfl) (Nat.le_of_ble_eq_true rfl) (s_X5_emit (u := u) G hr hu (by omega) (fun g127 o127 a127 b127 c127 => ?_))
      have t127 := tkR_of htk o127 (by decide) (by decide) (by decide) (by decide)
      have htp127 := tpR_of htp ht o127 (by decide)
      refine r_aloadR0 dX5_readAtom_130 ?_
      refine q_callV0 zm_RX5_73 dX5_readAtom_131 hr.1 (by decide) rfl (Nat.le_of_ble_eq_true rfl) (Nat.le_of_ble_eq_true rfl) (Nat.le_of_ble_eq_true rfl) (Nat.le_of_ble_eq_true rfl) (Nat.le_of_ble_eq_true rfl) (s_X5_next (p := teP B n p) G hr kw ko htp127 t127.2.1 (teP_le t127.1) t127.2.2.2.2.2.2 (fun v131 g131 o131 t131 => ?_))
      have t131 : tkR ca B n g131 v131 A (nxP B n p) := t131
      refine n_iconst dX5_readAtom_134 (by decide) (fun r134 e134 => ?_)
      refine m_zret dX5_readAtom_135 rfl (by omega) (Nat.le_of_ble_eq_true rfl) (Nat.le_of_ble_eq_true rfl) ?_
      exact hQ _ _ g131 (frM_tr (frM_su o127 (by decide) (by decide)) (frM_su o131 (by decide) (by decide))) (fun _ => ⟨e134, t131, okR_cg (okR_one a127 b127 c127 (by omega)) rfl (o131.2.1 8 (by decide) (by decide) (by decide)) (o131.2.2 9 (by decide))⟩) (fun h_z => absurd rfl h_z)
    · rw [if_neg h5l] at hol
      have h6 : fcP (wdP B n p) < 6 := by have h7 := hf.2; rw [if_neg h5l] at h7; exact h7
      have hna := (f3_z hf8).mp h6
      refine r_aloadR0 dX5_readAtom_0 ?_
      refine m_getV (x := (f A 4)) zf_RX5_25 rfl dX5_readAtom_1 hr.1 (rfl) ?_
      refine n_bipush dX5_readAtom_4 (by decide) (fun r4 e4_z => ?_)
      refine t_icne (t := 42) dX5_readAtom_6 (by decide) (fun h6 => ?_) (fun h6 => False.elim (by omega))
      refine r_aloadR0 dX5_readAtom_42 ?_
      refine m_getV (x := (f A 4)) zf_RX5_25 rfl dX5_readAtom_43 hr.1 (rfl) ?_
      refine n_iconst dX5_readAtom_46 (by decide) (fun r46 e46 => ?_)
      refine t_icne (t := 64) dX5_readAtom_47 (by decide) (fun h47 => ?_) (fun h47 => False.elim (by omega))
      refine r_aloadR0 dX5_readAtom_64 ?_
      refine m_getV (x := (f A 4)) zf_RX5_25 rfl dX5_readAtom_65 hr.1 (rfl) ?_
      refine n_iconst dX5_readAtom_68 (by decide) (fun r68 e68 => ?_)
      refine t_icne (t := 104) dX5_readAtom_69 (by decide) (fun h69 => False.elim (by omega)) (fun h69 => ?_)
      refine r_aloadR0 dX5_readAtom_72 ?_
      refine m_getR (q := (ca (wdP B n p))) zf_RX5_37 rfl dX5_readAtom_73 hr.1 (zu_at.trans hv3) ?_
      refine k_getf (fun U hU => (ko.2.2.2.2.1 _ (Nat.lt_succ_of_le wd_le) U hU).2.2.1) zg_RX5_197 dX5_readAtom_76 ?_
      refine n_iconst dX5_readAtom_79 (by decide) (fun r79 e79 => ?_)
      refine t_iceq (t := 104) dX5_readAtom_80 (by decide) (fun h80 => False.elim (by omega)) (fun h80 => ?_)
      refine r_aloadR0 dX5_readAtom_83 ?_
      refine m_getV (x := (f A 10)) zf_RX5_54 rfl dX5_readAtom_84 hr.1 (rfl) ?_
      refine t_ifne (t := 100) dX5_readAtom_87 (by decide) (fun h87 => False.elim (by omega)) (fun h87 => ?_)
      refine r_aloadR0 dX5_readAtom_90 ?_
      refine m_getR (q := (ca (wdP B n p))) zf_RX5_37 rfl dX5_readAtom_91 hr.1 (zu_at.trans hv3) ?_
      refine k_callV0 zm_RX5_200 dX5_readAtom_94 (fun U hU => (ko.2.2.2.2.1 _ (Nat.lt_succ_of_le wd_le) U hU).1) (Nat.le_of_ble_eq_true rfl) (Nat.le_of_ble_eq_true rfl) (Nat.le_of_ble_eq_true rfl) (Nat.le_of_ble_eq_true rfl) (Nat.le_of_ble_eq_true rfl) (s_X10_isOfLikesAlone (i := wdP B n p) G kw ko (by omega) (fun r94 e94_z => ?_))
      refine t_ifne (t := 104) dX5_readAtom_97 (by decide) (fun h97 => False.elim (e94_z.elim (fun h_z => hna h_z.2) (fun h_z => by omega))) (fun h97 => ?_)
      refine n_iconst dX5_readAtom_100 (by decide) (fun r100 e100_z => ?_)
      refine r_goto (t := 105) dX5_readAtom_101 (by decide) ?_
      refine r_istore2 dX5_readAtom_105 rfl ?_
      refine r_iload2 dX5_readAtom_106 ?_
      refine t_ifne (t := 115) dX5_readAtom_107 (by decide) (fun h107 => ?_) (fun h107 => False.elim (by omega))
      refine r_aloadR0 dX5_readAtom_115 ?_
      refine n_sipush dX5_readAtom_116 (by decide) (fun r116 e116 => ?_)
      refine r_aloadR0 dX5_readAtom_119 ?_
      refine m_getR (q := (ca (wdP B n p))) zf_RX5_37 rfl dX5_readAtom_120 hr.1 (zu_at.trans hv3) ?_
      refine k_getf (fun U hU => (ko.2.2.2.2.1 _ (Nat.lt_succ_of_le wd_le) U hU).2.2.1) zg_RX5_197 dX5_readAtom_123 ?_
      refine n_iadd dX5_readAtom_126 (by omega) (fun r126 e126 => ?_)
      refine q_callV1 zm_RX5_173 dX5_readAtom_127 hr.1 (by decide) rfl (Nat.le_of_ble_eq_true rfl) (Nat.le_of_ble_eq_true rfl) (Nat.le_of_ble_eq_true rfl) (Nat.le_of_ble_eq_true rfl) (Nat.le_of_ble_eq_true rfl) (s_X5_emit (u := u) G hr hu (by omega) (fun g127 o127 a127 b127 c127 => ?_))
      have t127 := tkR_of htk o127 (by decide) (by decide) (by decide) (by decide)
      have htp127 := tpR_of htp ht o127 (by decide)
      refine r_aloadR0 dX5_readAtom_130 ?_
      refine q_callV0 zm_RX5_73 dX5_readAtom_131 hr.1 (by decide) rfl (Nat.le_of_ble_eq_true rfl) (Nat.le_of_ble_eq_true rfl) (Nat.le_of_ble_eq_true rfl) (Nat.le_of_ble_eq_true rfl) (Nat.le_of_ble_eq_true rfl) (s_X5_next (p := teP B n p) G hr kw ko htp127 t127.2.1 (teP_le t127.1) t127.2.2.2.2.2.2 (fun v131 g131 o131 t131 => ?_))
      have t131 : tkR ca B n g131 v131 A (nxP B n p) := t131
      refine n_iconst dX5_readAtom_134 (by decide) (fun r134 e134 => ?_)
      refine m_zret dX5_readAtom_135 rfl (by omega) (Nat.le_of_ble_eq_true rfl) (Nat.le_of_ble_eq_true rfl) ?_
      exact hQ _ _ g131 (frM_tr (frM_su o127 (by decide) (by decide)) (frM_su o131 (by decide) (by decide))) (fun _ => ⟨e134, t131, okR_cg (okR_one a127 b127 c127 (by omega)) rfl (o131.2.1 8 (by decide) (by decide) (by decide)) (o131.2.2 9 (by decide))⟩) (fun h_z => absurd rfl h_z)
  have hba := ba_bd (B := B) (n := n) (s := p)
  have hv : a1P B n (if lm = 5 then 8 else 6) p = (baP B n p, p, []) := a1_bad h2 hf
  rw [hv] at hQ
  by_cases h3 : tkP B n p = 3
  · have hv3 := htk.2.2.2.2.2.1 h3
    by_cases h8 : fcP (wdP B n p) = 8
    · have n1 := f1_z.mpr h8
      refine r_aloadR0 dX5_readAtom_0 ?_
      refine m_getV (x := (f A 4)) zf_RX5_25 rfl dX5_readAtom_1 hr.1 (rfl) ?_
      refine n_bipush dX5_readAtom_4 (by decide) (fun r4 e4_z => ?_)
      refine t_icne (t := 42) dX5_readAtom_6 (by decide) (fun h6 => ?_) (fun h6 => False.elim (by omega))
      refine r_aloadR0 dX5_readAtom_42 ?_
      refine m_getV (x := (f A 4)) zf_RX5_25 rfl dX5_readAtom_43 hr.1 (rfl) ?_
      refine n_iconst dX5_readAtom_46 (by decide) (fun r46 e46 => ?_)
      refine t_icne (t := 64) dX5_readAtom_47 (by decide) (fun h47 => ?_) (fun h47 => False.elim (by omega))
      refine r_aloadR0 dX5_readAtom_64 ?_
      refine m_getV (x := (f A 4)) zf_RX5_25 rfl dX5_readAtom_65 hr.1 (rfl) ?_
      refine n_iconst dX5_readAtom_68 (by decide) (fun r68 e68 => ?_)
      refine t_icne (t := 104) dX5_readAtom_69 (by decide) (fun h69 => False.elim (by omega)) (fun h69 => ?_)
      refine r_aloadR0 dX5_readAtom_72 ?_
      refine m_getR (q := (ca (wdP B n p))) zf_RX5_37 rfl dX5_readAtom_73 hr.1 (zu_at.trans hv3) ?_
      refine k_getf (fun U hU => (ko.2.2.2.2.1 _ (Nat.lt_succ_of_le wd_le) U hU).2.2.1) zg_RX5_197 dX5_readAtom_76 ?_
      refine n_iconst dX5_readAtom_79 (by decide) (fun r79 e79 => ?_)
      refine t_iceq (t := 104) dX5_readAtom_80 (by decide) (fun h80 => ?_) (fun h80 => False.elim (by omega))
      refine n_iconst dX5_readAtom_104 (by decide) (fun r104 e104_z => ?_)
      refine r_istore2 dX5_readAtom_105 rfl ?_
      refine r_iload2 dX5_readAtom_106 ?_
      refine t_ifne (t := 115) dX5_readAtom_107 (by decide) (fun h107 => False.elim (by omega)) (fun h107 => ?_)
      refine r_aloadR0 dX5_readAtom_110 ?_
      refine q_callV0 zm_RX5_80 dX5_readAtom_111 hr.1 (by decide) rfl (Nat.le_of_ble_eq_true rfl) (Nat.le_of_ble_eq_true rfl) (Nat.le_of_ble_eq_true rfl) (Nat.le_of_ble_eq_true rfl) (Nat.le_of_ble_eq_true rfl) (s_X5_refuseToken G hr htk (fun r111 g111 e111_z o111 l111 => ?_))
      refine m_zret dX5_readAtom_114 rfl (by omega) (Nat.le_of_ble_eq_true rfl) (Nat.le_of_ble_eq_true rfl) ?_
      exact hQ _ _ g111 (frM_su o111 (by decide) (by decide)) (fun h_z => absurd h_z hba.1) (fun _ => ⟨e111_z, l111⟩)
    · have n1 : (fcI (wdP B n p)).toInt ≠ -1 := fun h_z => h8 (f1_z.mp h_z)
      have h5l : lm ≠ 5 := fun h_z => hf ⟨h3, by rw [if_pos h_z]; omega⟩
      rw [if_neg h5l] at hol
      have hna : wdP B n p = 2 ∨ wdP B n p = 15 := Decidable.byContradiction (fun h_z => hf ⟨h3, by rw [if_neg h5l]; exact (f3_z (by omega)).mpr h_z⟩)
      refine r_aloadR0 dX5_readAtom_0 ?_
      refine m_getV (x := (f A 4)) zf_RX5_25 rfl dX5_readAtom_1 hr.1 (rfl) ?_
      refine n_bipush dX5_readAtom_4 (by decide) (fun r4 e4_z => ?_)
      refine t_icne (t := 42) dX5_readAtom_6 (by decide) (fun h6 => ?_) (fun h6 => False.elim (by omega))
      refine r_aloadR0 dX5_readAtom_42 ?_
      refine m_getV (x := (f A 4)) zf_RX5_25 rfl dX5_readAtom_43 hr.1 (rfl) ?_
      refine n_iconst dX5_readAtom_46 (by decide) (fun r46 e46 => ?_)
      refine t_icne (t := 64) dX5_readAtom_47 (by decide) (fun h47 => ?_) (fun h47 => False.elim (by omega))
      refine r_aloadR0 dX5_readAtom_64 ?_
      refine m_getV (x := (f A 4)) zf_RX5_25 rfl dX5_readAtom_65 hr.1 (rfl) ?_
      refine n_iconst dX5_readAtom_68 (by decide) (fun r68 e68 => ?_)
      refine t_icne (t := 104) dX5_readAtom_69 (by decide) (fun h69 => False.elim (by omega)) (fun h69 => ?_)
      refine r_aloadR0 dX5_readAtom_72 ?_
      refine m_getR (q := (ca (wdP B n p))) zf_RX5_37 rfl dX5_readAtom_73 hr.1 (zu_at.trans hv3) ?_
      refine k_getf (fun U hU => (ko.2.2.2.2.1 _ (Nat.lt_succ_of_le wd_le) U hU).2.2.1) zg_RX5_197 dX5_readAtom_76 ?_
      refine n_iconst dX5_readAtom_79 (by decide) (fun r79 e79 => ?_)
      refine t_iceq (t := 104) dX5_readAtom_80 (by decide) (fun h80 => False.elim (by omega)) (fun h80 => ?_)
      refine r_aloadR0 dX5_readAtom_83 ?_
      refine m_getV (x := (f A 10)) zf_RX5_54 rfl dX5_readAtom_84 hr.1 (rfl) ?_
      refine t_ifne (t := 100) dX5_readAtom_87 (by decide) (fun h87 => False.elim (by omega)) (fun h87 => ?_)
      refine r_aloadR0 dX5_readAtom_90 ?_
      refine m_getR (q := (ca (wdP B n p))) zf_RX5_37 rfl dX5_readAtom_91 hr.1 (zu_at.trans hv3) ?_
      refine k_callV0 zm_RX5_200 dX5_readAtom_94 (fun U hU => (ko.2.2.2.2.1 _ (Nat.lt_succ_of_le wd_le) U hU).1) (Nat.le_of_ble_eq_true rfl) (Nat.le_of_ble_eq_true rfl) (Nat.le_of_ble_eq_true rfl) (Nat.le_of_ble_eq_true rfl) (Nat.le_of_ble_eq_true rfl) (s_X10_isOfLikesAlone (i := wdP B n p) G kw ko (by omega) (fun r94 e94_z => ?_))
      refine t_ifne (t := 104) dX5_readAtom_97 (by decide) (fun h97 => ?_) (fun h97 => False.elim (e94_z.elim (fun h_z => by omega) (fun h_z => h_z.2 hna)))
      refine n_iconst dX5_readAtom_104 (by decide) (fun r104 e104_z => ?_)
      refine r_istore2 dX5_readAtom_105 rfl ?_
      refine r_iload2 dX5_readAtom_106 ?_
      refine t_ifne (t := 115) dX5_readAtom_107 (by decide) (fun h107 => False.elim (by omega)) (fun h107 => ?_)
      refine r_aloadR0 dX5_readAtom_110 ?_
      refine q_callV0 zm_RX5_80 dX5_readAtom_111 hr.1 (by decide) rfl (Nat.le_of_ble_eq_true rfl) (Nat.le_of_ble_eq_true rfl) (Nat.le_of_ble_eq_true rfl) (Nat.le_of_ble_eq_true rfl) (Nat.le_of_ble_eq_true rfl) (s_X5_refuseToken G hr htk (fun r111 g111 e111_z o111 l111 => ?_))
      refine m_zret dX5_readAtom_114 rfl (by omega) (Nat.le_of_ble_eq_true rfl) (Nat.le_of_ble_eq_true rfl) ?_
      exact hQ _ _ g111 (frM_su o111 (by decide) (by decide)) (fun h_z => absurd h_z hba.1) (fun _ => ⟨e111_z, l111⟩)
  refine r_aloadR0 dX5_readAtom_0 ?_
  refine m_getV (x := (f A 4)) zf_RX5_25 rfl dX5_readAtom_1 hr.1 (rfl) ?_
  refine n_bipush dX5_readAtom_4 (by decide) (fun r4 e4_z => ?_)
  refine t_icne (t := 42) dX5_readAtom_6 (by decide) (fun h6 => ?_) (fun h6 => False.elim (by omega))
  refine r_aloadR0 dX5_readAtom_42 ?_
  refine m_getV (x := (f A 4)) zf_RX5_25 rfl dX5_readAtom_43 hr.1 (rfl) ?_
  refine n_iconst dX5_readAtom_46 (by decide) (fun r46 e46 => ?_)
  refine t_icne (t := 64) dX5_readAtom_47 (by decide) (fun h47 => ?_) (fun h47 => False.elim (by omega))
  refine r_aloadR0 dX5_readAtom_64 ?_
  refine m_getV (x := (f A 4)) zf_RX5_25 rfl dX5_readAtom_65 hr.1 (rfl) ?_
  refine n_iconst dX5_readAtom_68 (by decide) (fun r68 e68 => ?_)
  refine t_icne (t := 104) dX5_readAtom_69 (by decide) (fun h69 => ?_) (fun h69 => False.elim (by omega))
  refine n_iconst dX5_readAtom_104 (by decide) (fun r104 e104_z => ?_)
  refine r_istore2 dX5_readAtom_105 rfl ?_
  refine r_iload2 dX5_readAtom_106 ?_
  refine t_ifne (t := 115) dX5_readAtom_107 (by decide) (fun h107 => False.elim (by omega)) (fun h107 => ?_)
  refine r_aloadR0 dX5_readAtom_110 ?_
  refine q_callV0 zm_RX5_80 dX5_readAtom_111 hr.1 (by decide) rfl (Nat.le_of_ble_eq_true rfl) (Nat.le_of_ble_eq_true rfl) (Nat.le_of_ble_eq_true rfl) (Nat.le_of_ble_eq_true rfl) (Nat.le_of_ble_eq_true rfl) (s_X5_refuseToken G hr htk (fun r111 g111 e111_z o111 l111 => ?_))
  refine m_zret dX5_readAtom_114 rfl (by omega) (Nat.le_of_ble_eq_true rfl) (Nat.le_of_ble_eq_true rfl) ?_
  exact hQ _ _ g111 (frM_su o111 (by decide) (by decide)) (fun h_z => absurd h_z hba.1) (fun _ => ⟨e111_z, l111⟩)
set_option maxHeartbeats 4000000 in
set_option maxRecDepth 100000 in
theorem s_X5_readTerm_1 {g : zGT} {w : zW} {f : Nat → Nat → Int32} {j : Nat → Nat → Int64} {A tq nq : Nat} {v : Option Nat} {B : Nat → Nat} {n : Nat} {ca wa wv : Nat → Nat} {kq ta sm gq gv : Nat} {p lm u : Nat} {x : Int32} {Q : Option Value → zW → Prop} {QX : String → zW → Prop} (G : zGok g) (hr : shRd w A tq nq) (kw : kWd g wa wv kq) (ko : kWo g ca wa wv ta sm gq gv) (htp : tpR B n f A tq) (htk : tkR ca B n f v A p) (hx : x.toInt = 5) (hol : (f A 10).toInt = if lm = 5 then 1 else 0) (hu : (f A 9).toInt = (u : Nat)) (hup : u ≤ p) (hQ : ∀ (b : Int32) v2 f2_z, frM A [8] [2, 3, 4, 5, 9, 11, 12] f f2_z → ((chP B n (atP B n (if lm = 5 then 8 else 6) 1) (opT B n) p).1 = 0 → b.toInt = 1 ∧ tkR ca B n f2_z v2 A (chP B n (atP B n (if lm = 5 then 8 else 6) 1) (opT B n) p).2.1 ∧ okR f f2_z A u (chP B n (atP B n (if lm = 5 then 8 else 6) 1) (opT B n) p).2.2) → ((chP B n (atP B n (if lm = 5 then 8 else 6) 1) (opT B n) p).1 ≠ 0 → b.toInt = 0 ∧ flR f2_z A (chP B n (atP B n (if lm = 5 then 8 else 6) 1) (opT B n) p).1 (chP B n (atP B n (if lm = 5 then 8 else 6) 1) (opT B n) p).2.1) → Q (some (.int b)) (zM (wW w A v2) f2_z j)) : zC g 15 yX5_readTerm cX5_readTerm 3 (some .boolean) [.ref A, .int x] (zM (wW w A v) f j) (0, 0) Q QX := by
  refine zC_of G (by decide +kernel) (Nat.le_of_ble_eq_true rfl) ?_
  have ht := hr.2.2.2.2.2.2
  have h4 := htk.2.2.2.1
  have hpn := htk.1
  have h900 := htp.2.1
  have hgd : ∀ s, s ≤ n → gdP n false (if lm = 5 then 8 else 6) (1 + 2 * 1) s ((atP B n (if lm = 5 then 8 else 6) 1) s) := gd_at (by split <;> decide) 1
  have lp : ∀ (mz : Nat) (uu : Int32) (i : Nat) (k : Nat) (ps : Nat) (c : List Nat) (f2_z : Nat → Nat → Int32) (vv : Option Nat), uu.toInt = (i : Nat) → frM A [8] [2, 3, 4, 5, 9, 11, 12] f f2_z → tkR ca B n f2_z vv A ps → okR f f2_z A u c → p + i < ps → ps ≤ n → c.length + p ≤ ps → n ≤ k + ps → lpP B n (atP B n (if lm = 5 then 8 else 6) 1) (opT B n) k (0, ps, c) = chP B n (atP B n (if lm = 5 then 8 else 6) 1) (opT B n) p → k < mz → zR (zV g 15 yX5_readTerm 3 (some .boolean) (0, 0) Q QX) cX5_readTerm yX5_readTerm.cls 12 [some (.ref A), some (.int x), some (.int uu)] [] (zM (wW w A vv) f2_z j) (0, 0) := by
    intro mz
    induction mz with
    | zero =>
      intro uu i k ps c f2_z vv hui ofr htk2 hok hpi hps hcl hnk hR hmz
      exact absurd hmz (Nat.not_lt_zero _)
    | succ mz ih =>
      intro uu i k ps c f2_z vv hui ofr htk2 hok hpi hps hcl hnk hR hmz
      have htp2 := tpR_of htp ht ofr (by decide)
      have h1 := htp2.1
      have htk4 := htk2.2.2.2.1
      have hi9 : i < n := by omega
      by_cases hc_z : tkP B n ps = 42
      · have hop : (opT B n) ps = 2005 := if_pos hc_z
        have hop0 : (opT B n) ps ≠ 0 := by rw [hop]; decide
        have hln := tk_lt (B := B) (n := n) (s := ps) (by rw [hc_z]; decide)
        obtain ⟨k2_z, rfl⟩ : ∃ k2_z, k = k2_z + 1 := ⟨k - 1, by omega⟩
        have hnx := nxP_gt (B := B) hln
        have gq := hgd _ hnx.2
        by_cases hq : ((atP B n (if lm = 5 then 8 else 6) 1) (nxP B n ps)).1 = 0
        · obtain ⟨y1, y2, y3, y4⟩ := gq.1 hq
          refine r_iload2 dX5_readTerm_12 ?_
          refine r_aloadR0 dX5_readTerm_13 ?_
          refine m_getV (x := (f2_z A 1)) zf_RX5_15 rfl dX5_readTerm_14 hr.1 (rfl) ?_
          refine t_icge (t := 56) dX5_readTerm_17 (by decide) (fun h17 => False.elim (by omega)) (fun h17 => ?_)
          refine r_aloadR0 dX5_readTerm_20 ?_
          refine m_getV (x := (f2_z A 4)) zf_RX5_25 rfl dX5_readTerm_21 hr.1 (rfl) ?_
          refine n_bipush dX5_readTerm_24 (by decide) (fun r24 e24_z => ?_)
          refine t_icne (t := 56) dX5_readTerm_26 (by decide) (fun h26 => False.elim (by omega)) (fun h26 => ?_)
          refine r_aloadR0 dX5_readTerm_29 ?_
          refine q_callV0 zm_RX5_73 dX5_readTerm_30 hr.1 (by decide) rfl (Nat.le_of_ble_eq_true rfl) (Nat.le_of_ble_eq_true rfl) (Nat.le_of_ble_eq_true rfl) (Nat.le_of_ble_eq_true rfl) (Nat.le_of_ble_eq_true rfl) (s_X5_next (p := teP B n ps) G hr kw ko htp2 htk2.2.1 (teP_le htk2.1) htk2.2.2.2.2.2.2 (fun v30 g30 o30 t30 => ?_))
          have t30 : tkR ca B n g30 v30 A (nxP B n ps) := t30
          have htpn := tpR_of htp2 ht o30 (by decide)
          have wn : g30 (A + 8) = f2_z (A + 8) := o30.2.1 8 (by decide) (by decide) (by decide)
          refine r_aloadR0 dX5_readTerm_33 ?_
          refine r_iload1 dX5_readTerm_34 ?_
          refine q_callV1 zm_RX5_194 dX5_readTerm_35 hr.1 (by decide) rfl (Nat.le_of_ble_eq_true rfl) (Nat.le_of_ble_eq_true rfl) (Nat.le_of_ble_eq_true rfl) (Nat.le_of_ble_eq_true rfl) (Nat.le_of_ble_eq_true rfl) (s_X5_readAtom_1 (lm := lm) (u := u + c.length) G hr kw ko htpn t30 hx (by rw [o30.2.2 10 (by decide), ofr.2.2 10 (by decide)]; exact hol) (by rw [o30.2.2 9 (by decide)]; exact hok.1) (by omega) (fun rs vs gs os as bs => ?_))
          have as2 : ((atP B n (if lm = 5 then 8 else 6) 1) (nxP B n ps)).1 = 0 → rs.toInt = 1 ∧ tkR ca B n gs vs A ((atP B n (if lm = 5 then 8 else 6) 1) (nxP B n ps)).2.1 ∧ okR g30 gs A (u + c.length) ((atP B n (if lm = 5 then 8 else 6) 1) (nxP B n ps)).2.2 := as
          have bs2 : ((atP B n (if lm = 5 then 8 else 6) 1) (nxP B n ps)).1 ≠ 0 → rs.toInt = 0 ∧ flR gs A ((atP B n (if lm = 5 then 8 else 6) 1) (nxP B n ps)).1 ((atP B n (if lm = 5 then 8 else 6) 1) (nxP B n ps)).2.1 := bs
          have ofs : frM A [8] [2, 3, 4, 5, 9, 11, 12] f gs := frM_tr ofr (frM_tr (frM_su o30 (by decide) (by decide)) os)
          obtain ⟨cs, ts, ks⟩ := as2 hq
          refine t_ifne (t := 43) dX5_readTerm_38 (by decide) (fun h38 => ?_) (fun h38 => False.elim (by omega))
          refine r_aloadR0 dX5_readTerm_43 ?_
          refine n_sipush dX5_readTerm_44 (by decide) (fun r44 e44 => ?_)
          refine q_callV1 zm_RX5_173 dX5_readTerm_47 hr.1 (by decide) rfl (Nat.le_of_ble_eq_true rfl) (Nat.le_of_ble_eq_true rfl) (Nat.le_of_ble_eq_true rfl) (Nat.le_of_ble_eq_true rfl) (Nat.le_of_ble_eq_true rfl) (s_X5_emit (u := u + c.length + ((atP B n (if lm = 5 then 8 else 6) 1) (nxP B n ps)).2.2.length) G hr ks.1 (by omega) (fun g47 o47 a47 b47 c47 => ?_))
          refine n_iinc2 dX5_readTerm_50 (by decide) rfl (by omega) (fun r50 e50 => ?_)
          refine r_goto (t := 12) dX5_readTerm_53 (by decide) ?_
          refine ih _ (i + 1) k2_z ((atP B n (if lm = 5 then 8 else 6) 1) (nxP B n ps)).2.1 (c ++ ((atP B n (if lm = 5 then 8 else 6) 1) (nxP B n ps)).2.2 ++ [(opT B n) ps]) g47 _ (by omega) (frM_tr ofs (frM_su o47 (by decide) (by decide))) (tkR_of ts o47 (by decide) (by decide) (by decide) (by decide)) (okR_ap (okR_ap hok (okR_cg ks wn rfl rfl)) ?_) (by omega) y2 ?_ (by omega) ?_ (by omega)
          · rw [List.length_append, ← Nat.add_assoc, hop]
            exact okR_one a47 b47 c47 (by omega)
          · rw [List.length_append, List.length_append, List.length_singleton]
            omega
          · exact (lpP_on (r := (0, ps, c)) rfl hop0 hq).symm.trans hR
        · have hv : ((atP B n (if lm = 5 then 8 else 6) 1) (nxP B n ps)) = chP B n (atP B n (if lm = 5 then 8 else 6) 1) (opT B n) p := (lpP_sub (k := k2_z) (r := (0, ps, c)) rfl hop0 hq).symm.trans hR
          refine r_iload2 dX5_readTerm_12 ?_
          refine r_aloadR0 dX5_readTerm_13 ?_
          refine m_getV (x := (f2_z A 1)) zf_RX5_15 rfl dX5_readTerm_14 hr.1 (rfl) ?_
          refine t_icge (t := 56) dX5_readTerm_17 (by decide) (fun h17 => False.elim (by omega)) (fun h17 => ?_)
          refine r_aloadR0 dX5_readTerm_20 ?_
          refine m_getV (x := (f2_z A 4)) zf_RX5_25 rfl dX5_readTerm_21 hr.1 (rfl) ?_
          refine n_bipush dX5_readTerm_24 (by decide) (fun r24 e24_z => ?_)
          refine t_icne (t := 56) dX5_readTerm_26 (by decide) (fun h26 => False.elim (by omega)) (fun h26 => ?_)
          refine r_aloadR0 dX5_readTerm_29 ?_
          refine q_callV0 zm_RX5_73 dX5_readTerm_30 hr.1 (by decide) rfl (Nat.le_of_ble_eq_true rfl) (Nat.le_of_ble_eq_true rfl) (Nat.le_of_ble_eq_true rfl) (Nat.le_of_ble_eq_true rfl) (Nat.le_of_ble_eq_true rfl) (s_X5_next (p := teP B n ps) G hr kw ko htp2 htk2.2.1 (teP_le htk2.1) htk2.2.2.2.2.2.2 (fun v30 g30 o30 t30 => ?_))
          have t30 : tkR ca B n g30 v30 A (nxP B n ps) := t30
          have htpn := tpR_of htp2 ht o30 (by decide)
          have wn : g30 (A + 8) = f2_z (A + 8) := o30.2.1 8 (by decide) (by decide) (by decide)
          refine r_aloadR0 dX5_readTerm_33 ?_
          refine r_iload1 dX5_readTerm_34 ?_
          refine q_callV1 zm_RX5_194 dX5_readTerm_35 hr.1 (by decide) rfl (Nat.le_of_ble_eq_true rfl) (Nat.le_of_ble_eq_true rfl) (Nat.le_of_ble_eq_true rfl) (Nat.le_of_ble_eq_true rfl) (Nat.le_of_ble_eq_true rfl) (s_X5_readAtom_1 (lm := lm) (u := u + c.length) G hr kw ko htpn t30 hx (by rw [o30.2.2 10 (by decide), ofr.2.2 10 (by decide)]; exact hol) (by rw [o30.2.2 9 (by decide)]; exact hok.1) (by omega) (fun rs vs gs os as bs => ?_))
          have as2 : ((atP B n (if lm = 5 then 8 else 6) 1) (nxP B n ps)).1 = 0 → rs.toInt = 1 ∧ tkR ca B n gs vs A ((atP B n (if lm = 5 then 8 else 6) 1) (nxP B n ps)).2.1 ∧ okR g30 gs A (u + c.length) ((atP B n (if lm = 5 then 8 else 6) 1) (nxP B n ps)).2.2 := as
          have bs2 : ((atP B n (if lm = 5 then 8 else 6) 1) (nxP B n ps)).1 ≠ 0 → rs.toInt = 0 ∧ flR gs A ((atP B n (if lm = 5 then 8 else 6) 1) (nxP B n ps)).1 ((atP B n (if lm = 5 then 8 else 6) 1) (nxP B n ps)).2.1 := bs
          have ofs : frM A [8] [2, 3, 4, 5, 9, 11, 12] f gs := frM_tr ofr (frM_tr (frM_su o30 (by decide) (by decide)) os)
          obtain ⟨cs, ls⟩ := bs2 hq
          refine t_ifne (t := 43) dX5_readTerm_38 (by decide) (fun h38 => False.elim (by omega)) (fun h38 => ?_)
          refine n_iconst dX5_readTerm_41 (by decide) (fun r41 e41_z => ?_)
          refine m_zret dX5_readTerm_42 rfl (by omega) (Nat.le_of_ble_eq_true rfl) (Nat.le_of_ble_eq_true rfl) ?_
          rw [← hv] at hQ
          exact hQ _ _ gs ofs (fun h_z => absurd h_z hq) (fun _ => ⟨e41_z, ls⟩)
      have hop : (opT B n) ps = 0 := if_neg hc_z
      have hv := (lpP_end (B := B) (n := n) (k := k) (sub := (atP B n (if lm = 5 then 8 else 6) 1)) (r := (0, ps, c)) hop).symm.trans hR
      refine r_iload2 dX5_readTerm_12 ?_
      refine r_aloadR0 dX5_readTerm_13 ?_
      refine m_getV (x := (f2_z A 1)) zf_RX5_15 rfl dX5_readTerm_14 hr.1 (rfl) ?_
      refine t_icge (t := 56) dX5_readTerm_17 (by decide) (fun h17 => False.elim (by omega)) (fun h17 => ?_)
      refine r_aloadR0 dX5_readTerm_20 ?_
      refine m_getV (x := (f2_z A 4)) zf_RX5_25 rfl dX5_readTerm_21 hr.1 (rfl) ?_
      refine n_bipush dX5_readTerm_24 (by decide) (fun r24 e24_z => ?_)
      refine t_icne (t := 56) dX5_readTerm_26 (by decide) (fun h26 => ?_) (fun h26 => False.elim (by omega))
      refine n_iconst dX5_readTerm_56 (by decide) (fun r56 e56 => ?_)
      refine m_zret dX5_readTerm_57 rfl (by omega) (Nat.le_of_ble_eq_true rfl) (Nat.le_of_ble_eq_true rfl) ?_
      rw [← hv] at hQ
      exact hQ _ _ f2_z ofr (fun _ => ⟨e56, htk2, hok⟩) (fun h_z => absurd rfl h_z)
  have gp := hgd p hpn
  by_cases hq : ((atP B n (if lm = 5 then 8 else 6) 1) p).1 = 0
  · obtain ⟨y1, y2, y3, y4⟩ := gp.1 hq
    have hz : ((atP B n (if lm = 5 then 8 else 6) 1) p) = (0, ((atP B n (if lm = 5 then 8 else 6) 1) p).2.1, ((atP B n (if lm = 5 then 8 else 6) 1) p).2.2) := Prod.ext hq rfl
    refine r_aloadR0 dX5_readTerm_0 ?_
    refine r_iload1 dX5_readTerm_1 ?_
    refine q_callV1 zm_RX5_194 dX5_readTerm_2 hr.1 (by decide) rfl (Nat.le_of_ble_eq_true rfl) (Nat.le_of_ble_eq_true rfl) (Nat.le_of_ble_eq_true rfl) (Nat.le_of_ble_eq_true rfl) (Nat.le_of_ble_eq_true rfl) (s_X5_readAtom_1 G hr kw ko htp htk hx hol hu hup (fun r2 v2 g2 o2 a2 b2 => ?_))
    have a2b : ((atP B n (if lm = 5 then 8 else 6) 1) p).1 = 0 → r2.toInt = 1 ∧ tkR ca B n g2 v2 A ((atP B n (if lm = 5 then 8 else 6) 1) p).2.1 ∧ okR f g2 A u ((atP B n (if lm = 5 then 8 else 6) 1) p).2.2 := a2
    have b2b : ((atP B n (if lm = 5 then 8 else 6) 1) p).1 ≠ 0 → r2.toInt = 0 ∧ flR g2 A ((atP B n (if lm = 5 then 8 else 6) 1) p).1 ((atP B n (if lm = 5 then 8 else 6) 1) p).2.1 := b2
    obtain ⟨c2_z, t2, k2_z⟩ := a2b hq
    refine t_ifne (t := 10) dX5_readTerm_5 (by decide) (fun h5 => ?_) (fun h5 => False.elim (by omega))
    refine n_iconst dX5_readTerm_10 (by decide) (fun r10 e10_z => ?_)
    refine r_istore2 dX5_readTerm_11 rfl ?_
    exact lp (n + 1) _ 0 n ((atP B n (if lm = 5 then 8 else 6) 1) p).2.1 ((atP B n (if lm = 5 then 8 else 6) 1) p).2.2 g2 _ (by omega) o2 t2 k2_z (by omega) y2 y3 (by omega) (by rw [← hz]; rfl) (Nat.lt_succ_self n)
  · have hv : chP B n (atP B n (if lm = 5 then 8 else 6) 1) (opT B n) p = ((atP B n (if lm = 5 then 8 else 6) 1) p) := lpP_bad hq
    rw [hv] at hQ
    refine r_aloadR0 dX5_readTerm_0 ?_
    refine r_iload1 dX5_readTerm_1 ?_
    refine q_callV1 zm_RX5_194 dX5_readTerm_2 hr.1 (by decide) rfl (Nat.le_of_ble_eq_true rfl) (Nat.le_of_ble_eq_true rfl) (Nat.le_of_ble_eq_true rfl) (Nat.le_of_ble_eq_true rfl) (Nat.le_of_ble_eq_true rfl) (s_X5_readAtom_1 G hr kw ko htp htk hx hol hu hup (fun r2 v2 g2 o2 a2 b2 => ?_))
    have a2b : ((atP B n (if lm = 5 then 8 else 6) 1) p).1 = 0 → r2.toInt = 1 ∧ tkR ca B n g2 v2 A ((atP B n (if lm = 5 then 8 else 6) 1) p).2.1 ∧ okR f g2 A u ((atP B n (if lm = 5 then 8 else 6) 1) p).2.2 := a2
    have b2b : ((atP B n (if lm = 5 then 8 else 6) 1) p).1 ≠ 0 → r2.toInt = 0 ∧ flR g2 A ((atP B n (if lm = 5 then 8 else 6) 1) p).1 ((atP B n (if lm = 5 then 8 else 6) 1) p).2.1 := b2
    obtain ⟨c2_z, l2⟩ := b2b hq
    refine t_ifne (t := 10) dX5_readTerm_5 (by decide) (fun h5 => False.elim (by omega)) (fun h5 => ?_)
    refine n_iconst dX5_readTerm_8 (by decide) (fun r8 e8 => ?_)
    refine m_zret dX5_readTerm_9 rfl (by omega) (Nat.le_of_ble_eq_true rfl) (Nat.le_of_ble_eq_true rfl) ?_
    exact hQ _ _ g2 o2 (fun h_z => absurd h_z hq) (fun _ => ⟨e8, l2⟩)
set_option maxHeartbeats 4000000 in
set_option maxRecDepth 100000 in
theorem s_X5_readSum_1 {g : zGT} {w : zW} {f : Nat → Nat → Int32} {j : Nat → Nat → Int64} {A tq nq : Nat} {v : Option Nat} {B : Nat → Nat} {n : Nat} {ca wa wv : Nat → Nat} {kq ta sm gq gv : Nat} {p lm u : Nat} {x : Int32} {Q : Option Value → zW → Prop} {QX : String → zW → Prop} (G : zGok g) (hr : shRd w A tq nq) (kw : kWd g wa wv kq) (ko : kWo g ca wa wv ta sm gq gv) (htp : tpR B n f A tq) (htk : tkR ca B n f v A p) (hx : x.toInt = 5) (hol : (f A 10).toInt = if lm = 5 then 1 else 0) (hu : (f A 9).toInt = (u : Nat)) (hup : u ≤ p) (hQ : ∀ (b : Int32) v2 f2_z, frM A [8] [2, 3, 4, 5, 9, 11, 12] f f2_z → ((chP B n (chP B n (atP B n (if lm = 5 then 8 else 6) 1) (opT B n)) (opS B n) p).1 = 0 → b.toInt = 1 ∧ tkR ca B n f2_z v2 A (chP B n (chP B n (atP B n (if lm = 5 then 8 else 6) 1) (opT B n)) (opS B n) p).2.1 ∧ okR f f2_z A u (chP B n (chP B n (atP B n (if lm = 5 then 8 else 6) 1) (opT B n)) (opS B n) p).2.2) → ((chP B n (chP B n (atP B n (if lm = 5 then 8 else 6) 1) (opT B n)) (opS B n) p).1 ≠ 0 → b.toInt = 0 ∧ flR f2_z A (chP B n (chP B n (atP B n (if lm = 5 then 8 else 6) 1) (opT B n)) (opS B n) p).1 (chP B n (chP B n (atP B n (if lm = 5 then 8 else 6) 1) (opT B n)) (opS B n) p).2.1) → Q (some (.int b)) (zM (wW w A v2) f2_z j)) : zC g 16 yX5_readSum cX5_readSum 4 (some .boolean) [.ref A, .int x] (zM (wW w A v) f j) (0, 0) Q QX := by
  refine zC_of G (by decide +kernel) (Nat.le_of_ble_eq_true rfl) ?_
  have ht := hr.2.2.2.2.2.2
  have h4 := htk.2.2.2.1
  have hpn := htk.1
  have h900 := htp.2.1
  have hgd : ∀ s, s ≤ n → gdP n false (if lm = 5 then 8 else 6) (1 + 2 * 1 + 1) s ((chP B n (atP B n (if lm = 5 then 8 else 6) 1) (opT B n)) s) := fun s hs9 => gd_ch (gd_at (by split <;> decide) 1) hop_T hs9
  have lp : ∀ (mz : Nat) (uu : Int32) (i : Nat) (k : Nat) (ps : Nat) (c : List Nat) (f2_z : Nat → Nat → Int32) (vv : Option Nat) (v3_ : Option Value), uu.toInt = (i : Nat) → frM A [8] [2, 3, 4, 5, 9, 11, 12] f f2_z → tkR ca B n f2_z vv A ps → okR f f2_z A u c → p + i < ps → ps ≤ n → c.length + p ≤ ps → n ≤ k + ps → lpP B n (chP B n (atP B n (if lm = 5 then 8 else 6) 1) (opT B n)) (opS B n) k (0, ps, c) = chP B n (chP B n (atP B n (if lm = 5 then 8 else 6) 1) (opT B n)) (opS B n) p → k < mz → zR (zV g 16 yX5_readSum 4 (some .boolean) (0, 0) Q QX) cX5_readSum yX5_readSum.cls 12 [some (.ref A), some (.int x), some (.int uu), v3_] [] (zM (wW w A vv) f2_z j) (0, 0) := by
    intro mz
    induction mz with
    | zero =>
      intro uu i k ps c f2_z vv v3_ hui ofr htk2 hok hpi hps hcl hnk hR hmz
      exact absurd hmz (Nat.not_lt_zero _)
    | succ mz ih =>
      intro uu i k ps c f2_z vv v3_ hui ofr htk2 hok hpi hps hcl hnk hR hmz
      have htp2 := tpR_of htp ht ofr (by decide)
      have h1 := htp2.1
      have htk4 := htk2.2.2.2.1
      have hi9 : i < n := by omega
      by_cases hc_z : tkP B n ps = 43
      · have hop : (opS B n) ps = 2003 := if_pos hc_z
        have hop0 : (opS B n) ps ≠ 0 := by rw [hop]; decide
        have hln := tk_lt (B := B) (n := n) (s := ps) (by rw [hc_z]; decide)
        obtain ⟨k2_z, rfl⟩ : ∃ k2_z, k = k2_z + 1 := ⟨k - 1, by omega⟩
        have hnx := nxP_gt (B := B) hln
        have gq := hgd _ hnx.2
        by_cases hq : ((chP B n (atP B n (if lm = 5 then 8 else 6) 1) (opT B n)) (nxP B n ps)).1 = 0
        · obtain ⟨y1, y2, y3, y4⟩ := gq.1 hq
          refine r_iload2 dX5_readSum_12 ?_
          refine r_aloadR0 dX5_readSum_13 ?_
          refine m_getV (x := (f2_z A 1)) zf_RX5_15 rfl dX5_readSum_14 hr.1 (rfl) ?_
          refine t_icge (t := 82) dX5_readSum_17 (by decide) (fun h17 => False.elim (by omega)) (fun h17 => ?_)
          refine r_aloadR0 dX5_readSum_20 ?_
          refine m_getV (x := (f2_z A 4)) zf_RX5_25 rfl dX5_readSum_21 hr.1 (rfl) ?_
          refine n_bipush dX5_readSum_24 (by decide) (fun r24 e24_z => ?_)
          refine t_iceq (t := 38) dX5_readSum_26 (by decide) (fun h26 => ?_) (fun h26 => False.elim (by omega))
          refine r_aloadR0 dX5_readSum_38 ?_
          refine m_getV (x := (f2_z A 4)) zf_RX5_25 rfl dX5_readSum_39 hr.1 (rfl) ?_
          refine n_bipush dX5_readSum_42 (by decide) (fun r42 e42_z => ?_)
          refine t_icne (t := 53) dX5_readSum_44 (by decide) (fun h44 => False.elim (by omega)) (fun h44 => ?_)
          refine n_sipush dX5_readSum_47 (by decide) (fun r47 e47 => ?_)
          refine r_goto (t := 56) dX5_readSum_50 (by decide) ?_
          refine r_istore3 dX5_readSum_56 rfl ?_
          refine r_aloadR0 dX5_readSum_57 ?_
          refine q_callV0 zm_RX5_73 dX5_readSum_58 hr.1 (by decide) rfl (Nat.le_of_ble_eq_true rfl) (Nat.le_of_ble_eq_true rfl) (Nat.le_of_ble_eq_true rfl) (Nat.le_of_ble_eq_true rfl) (Nat.le_of_ble_eq_true rfl) (s_X5_next (p := teP B n ps) G hr kw ko htp2 htk2.2.1 (teP_le htk2.1) htk2.2.2.2.2.2.2 (fun v58 g58 o58 t58 => ?_))
          have t58 : tkR ca B n g58 v58 A (nxP B n ps) := t58
          have htpn := tpR_of htp2 ht o58 (by decide)
          have wn : g58 (A + 8) = f2_z (A + 8) := o58.2.1 8 (by decide) (by decide) (by decide)
          refine r_aloadR0 dX5_readSum_61 ?_
          refine r_iload1 dX5_readSum_62 ?_
          refine q_callV1 zm_RX5_191 dX5_readSum_63 hr.1 (by decide) rfl (Nat.le_of_ble_eq_true rfl) (Nat.le_of_ble_eq_true rfl) (Nat.le_of_ble_eq_true rfl) (Nat.le_of_ble_eq_true rfl) (Nat.le_of_ble_eq_true rfl) (s_X5_readTerm_1 (lm := lm) (u := u + c.length) G hr kw ko htpn t58 hx (by rw [o58.2.2 10 (by decide), ofr.2.2 10 (by decide)]; exact hol) (by rw [o58.2.2 9 (by decide)]; exact hok.1) (by omega) (fun rs vs gs os as bs => ?_))
          have as2 : ((chP B n (atP B n (if lm = 5 then 8 else 6) 1) (opT B n)) (nxP B n ps)).1 = 0 → rs.toInt = 1 ∧ tkR ca B n gs vs A ((chP B n (atP B n (if lm = 5 then 8 else 6) 1) (opT B n)) (nxP B n ps)).2.1 ∧ okR g58 gs A (u + c.length) ((chP B n (atP B n (if lm = 5 then 8 else 6) 1) (opT B n)) (nxP B n ps)).2.2 := as
          have bs2 : ((chP B n (atP B n (if lm = 5 then 8 else 6) 1) (opT B n)) (nxP B n ps)).1 ≠ 0 → rs.toInt = 0 ∧ flR gs A ((chP B n (atP B n (if lm = 5 then 8 else 6) 1) (opT B n)) (nxP B n ps)).1 ((chP B n (atP B n (if lm = 5 then 8 else 6) 1) (opT B n)) (nxP B n ps)).2.1 := bs
          have ofs : frM A [8] [2, 3, 4, 5, 9, 11, 12] f gs := frM_tr ofr (frM_tr (frM_su o58 (by decide) (by decide)) os)
          obtain ⟨cs, ts, ks⟩ := as2 hq
          refine t_ifne (t := 71) dX5_readSum_66 (by decide) (fun h66 => ?_) (fun h66 => False.elim (by omega))
          refine r_aloadR0 dX5_readSum_71 ?_
          refine r_iload3 dX5_readSum_72 ?_
          refine q_callV1 zm_RX5_173 dX5_readSum_73 hr.1 (by decide) rfl (Nat.le_of_ble_eq_true rfl) (Nat.le_of_ble_eq_true rfl) (Nat.le_of_ble_eq_true rfl) (Nat.le_of_ble_eq_true rfl) (Nat.le_of_ble_eq_true rfl) (s_X5_emit (u := u + c.length + ((chP B n (atP B n (if lm = 5 then 8 else 6) 1) (opT B n)) (nxP B n ps)).2.2.length) G hr ks.1 (by omega) (fun g73 o73 a73 b73 c73 => ?_))
          refine n_iinc2 dX5_readSum_76 (by decide) rfl (by omega) (fun r76 e76 => ?_)
          refine r_goto (t := 12) dX5_readSum_79 (by decide) ?_
          refine ih _ (i + 1) k2_z ((chP B n (atP B n (if lm = 5 then 8 else 6) 1) (opT B n)) (nxP B n ps)).2.1 (c ++ ((chP B n (atP B n (if lm = 5 then 8 else 6) 1) (opT B n)) (nxP B n ps)).2.2 ++ [(opS B n) ps]) g73 _ _ (by omega) (frM_tr ofs (frM_su o73 (by decide) (by decide))) (tkR_of ts o73 (by decide) (by decide) (by decide) (by decide)) (okR_ap (okR_ap hok (okR_cg ks wn rfl rfl)) ?_) (by omega) y2 ?_ (by omega) ?_ (by omega)
          · rw [List.length_append, ← Nat.add_assoc, hop]
            exact okR_one a73 b73 c73 (by omega)
          · rw [List.length_append, List.length_append, List.length_singleton]
            omega
          · exact (lpP_on (r := (0, ps, c)) rfl hop0 hq).symm.trans hR
        · have hv : ((chP B n (atP B n (if lm = 5 then 8 else 6) 1) (opT B n)) (nxP B n ps)) = chP B n (chP B n (atP B n (if lm = 5 then 8 else 6) 1) (opT B n)) (opS B n) p := (lpP_sub (k := k2_z) (r := (0, ps, c)) rfl hop0 hq).symm.trans hR
          refine r_iload2 dX5_readSum_12 ?_
          refine r_aloadR0 dX5_readSum_13 ?_
          refine m_getV (x := (f2_z A 1)) zf_RX5_15 rfl dX5_readSum_14 hr.1 (rfl) ?_
          refine t_icge (t := 82) dX5_readSum_17 (by decide) (fun h17 => False.elim (by omega)) (fun h17 => ?_)
          refine r_aloadR0 dX5_readSum_20 ?_
          refine m_getV (x := (f2_z A 4)) zf_RX5_25 rfl dX5_readSum_21 hr.1 (rfl) ?_
          refine n_bipush dX5_readSum_24 (by decide) (fun r24 e24_z => ?_)
          refine t_iceq (t := 38) dX5_readSum_26 (by decide) (fun h26 => ?_) (fun h26 => False.elim (by omega))
          refine r_aloadR0 dX5_readSum_38 ?_
          refine m_getV (x := (f2_z A 4)) zf_RX5_25 rfl dX5_readSum_39 hr.1 (rfl) ?_
          refine n_bipush dX5_readSum_42 (by decide) (fun r42 e42_z => ?_)
          refine t_icne (t := 53) dX5_readSum_44 (by decide) (fun h44 => False.elim (by omega)) (fun h44 => ?_)
          refine n_sipush dX5_readSum_47 (by decide) (fun r47 e47 => ?_)
          refine r_goto (t := 56) dX5_readSum_50 (by decide) ?_
          refine r_istore3 dX5_readSum_56 rfl ?_
          refine r_aloadR0 dX5_readSum_57 ?_
          refine q_callV0 zm_RX5_73 dX5_readSum_58 hr.1 (by decide) rfl (Nat.le_of_ble_eq_true rfl) (Nat.le_of_ble_eq_true rfl) (Nat.le_of_ble_eq_true rfl) (Nat.le_of_ble_eq_true rfl) (Nat.le_of_ble_eq_true rfl) (s_X5_next (p := teP B n ps) G hr kw ko htp2 htk2.2.1 (teP_le htk2.1) htk2.2.2.2.2.2.2 (fun v58 g58 o58 t58 => ?_))
          have t58 : tkR ca B n g58 v58 A (nxP B n ps) := t58
          have htpn := tpR_of htp2 ht o58 (by decide)
          have wn : g58 (A + 8) = f2_z (A + 8) := o58.2.1 8 (by decide) (by decide) (by decide)
          refine r_aloadR0 dX5_readSum_61 ?_
          refine r_iload1 dX5_readSum_62 ?_
          refine q_callV1 zm_RX5_191 dX5_readSum_63 hr.1 (by decide) rfl (Nat.le_of_ble_eq_true rfl) (Nat.le_of_ble_eq_true rfl) (Nat.le_of_ble_eq_true rfl) (Nat.le_of_ble_eq_true rfl) (Nat.le_of_ble_eq_true rfl) (s_X5_readTerm_1 (lm := lm) (u := u + c.length) G hr kw ko htpn t58 hx (by rw [o58.2.2 10 (by decide), ofr.2.2 10 (by decide)]; exact hol) (by rw [o58.2.2 9 (by decide)]; exact hok.1) (by omega) (fun rs vs gs os as bs => ?_))
          have as2 : ((chP B n (atP B n (if lm = 5 then 8 else 6) 1) (opT B n)) (nxP B n ps)).1 = 0 → rs.toInt = 1 ∧ tkR ca B n gs vs A ((chP B n (atP B n (if lm = 5 then 8 else 6) 1) (opT B n)) (nxP B n ps)).2.1 ∧ okR g58 gs A (u + c.length) ((chP B n (atP B n (if lm = 5 then 8 else 6) 1) (opT B n)) (nxP B n ps)).2.2 := as
          have bs2 : ((chP B n (atP B n (if lm = 5 then 8 else 6) 1) (opT B n)) (nxP B n ps)).1 ≠ 0 → rs.toInt = 0 ∧ flR gs A ((chP B n (atP B n (if lm = 5 then 8 else 6) 1) (opT B n)) (nxP B n ps)).1 ((chP B n (atP B n (if lm = 5 then 8 else 6) 1) (opT B n)) (nxP B n ps)).2.1 := bs
          have ofs : frM A [8] [2, 3, 4, 5, 9, 11, 12] f gs := frM_tr ofr (frM_tr (frM_su o58 (by decide) (by decide)) os)
          obtain ⟨cs, ls⟩ := bs2 hq
          refine t_ifne (t := 71) dX5_readSum_66 (by decide) (fun h66 => False.elim (by omega)) (fun h66 => ?_)
          refine n_iconst dX5_readSum_69 (by decide) (fun r69 e69 => ?_)
          refine m_zret dX5_readSum_70 rfl (by omega) (Nat.le_of_ble_eq_true rfl) (Nat.le_of_ble_eq_true rfl) ?_
          rw [← hv] at hQ
          exact hQ _ _ gs ofs (fun h_z => absurd h_z hq) (fun _ => ⟨e69, ls⟩)
      have hcn := hc_z
      clear hc_z
      by_cases hc_z : tkP B n ps = 45
      · have hop : (opS B n) ps = 2004 := (if_neg (by omega)).trans (if_pos hc_z)
        have hop0 : (opS B n) ps ≠ 0 := by rw [hop]; decide
        have hln := tk_lt (B := B) (n := n) (s := ps) (by rw [hc_z]; decide)
        obtain ⟨k2_z, rfl⟩ : ∃ k2_z, k = k2_z + 1 := ⟨k - 1, by omega⟩
        have hnx := nxP_gt (B := B) hln
        have gq := hgd _ hnx.2
        by_cases hq : ((chP B n (atP B n (if lm = 5 then 8 else 6) 1) (opT B n)) (nxP B n ps)).1 = 0
        · obtain ⟨y1, y2, y3, y4⟩ := gq.1 hq
          refine r_iload2 dX5_readSum_12 ?_
          refine r_aloadR0 dX5_readSum_13 ?_
          refine m_getV (x := (f2_z A 1)) zf_RX5_15 rfl dX5_readSum_14 hr.1 (rfl) ?_
          refine t_icge (t := 82) dX5_readSum_17 (by decide) (fun h17 => False.elim (by omega)) (fun h17 => ?_)
          refine r_aloadR0 dX5_readSum_20 ?_
          refine m_getV (x := (f2_z A 4)) zf_RX5_25 rfl dX5_readSum_21 hr.1 (rfl) ?_
          refine n_bipush dX5_readSum_24 (by decide) (fun r24 e24_z => ?_)
          refine t_iceq (t := 38) dX5_readSum_26 (by decide) (fun h26 => False.elim (by omega)) (fun h26 => ?_)
          refine r_aloadR0 dX5_readSum_29 ?_
          refine m_getV (x := (f2_z A 4)) zf_RX5_25 rfl dX5_readSum_30 hr.1 (rfl) ?_
          refine n_bipush dX5_readSum_33 (by decide) (fun r33 e33_z => ?_)
          refine t_icne (t := 82) dX5_readSum_35 (by decide) (fun h35 => False.elim (by omega)) (fun h35 => ?_)
          refine r_aloadR0 dX5_readSum_38 ?_
          refine m_getV (x := (f2_z A 4)) zf_RX5_25 rfl dX5_readSum_39 hr.1 (rfl) ?_
          refine n_bipush dX5_readSum_42 (by decide) (fun r42 e42_z => ?_)
          refine t_icne (t := 53) dX5_readSum_44 (by decide) (fun h44 => ?_) (fun h44 => False.elim (by omega))
          refine n_sipush dX5_readSum_53 (by decide) (fun r53 e53 => ?_)
          refine r_istore3 dX5_readSum_56 rfl ?_
          refine r_aloadR0 dX5_readSum_57 ?_
          refine q_callV0 zm_RX5_73 dX5_readSum_58 hr.1 (by decide) rfl (Nat.le_of_ble_eq_true rfl) (Nat.le_of_ble_eq_true rfl) (Nat.le_of_ble_eq_true rfl) (Nat.le_of_ble_eq_true rfl) (Nat.le_of_ble_eq_true rfl) (s_X5_next (p := teP B n ps) G hr kw ko htp2 htk2.2.1 (teP_le htk2.1) htk2.2.2.2.2.2.2 (fun v58 g58 o58 t58 => ?_))
          have t58 : tkR ca B n g58 v58 A (nxP B n ps) := t58
          have htpn := tpR_of htp2 ht o58 (by decide)
          have wn : g58 (A + 8) = f2_z (A + 8) := o58.2.1 8 (by decide) (by decide) (by decide)
          refine r_aloadR0 dX5_readSum_61 ?_
          refine r_iload1 dX5_readSum_62 ?_
          refine q_callV1 zm_RX5_191 dX5_readSum_63 hr.1 (by decide) rfl (Nat.le_of_ble_eq_true rfl) (Nat.le_of_ble_eq_true rfl) (Nat.le_of_ble_eq_true rfl) (Nat.le_of_ble_eq_true rfl) (Nat.le_of_ble_eq_true rfl) (s_X5_readTerm_1 (lm := lm) (u := u + c.length) G hr kw ko htpn t58 hx (by rw [o58.2.2 10 (by decide), ofr.2.2 10 (by decide)]; exact hol) (by rw [o58.2.2 9 (by decide)]; exact hok.1) (by omega) (fun rs vs gs os as bs => ?_))
          have as2 : ((chP B n (atP B n (if lm = 5 then 8 else 6) 1) (opT B n)) (nxP B n ps)).1 = 0 → rs.toInt = 1 ∧ tkR ca B n gs vs A ((chP B n (atP B n (if lm = 5 then 8 else 6) 1) (opT B n)) (nxP B n ps)).2.1 ∧ okR g58 gs A (u + c.length) ((chP B n (atP B n (if lm = 5 then 8 else 6) 1) (opT B n)) (nxP B n ps)).2.2 := as
          have bs2 : ((chP B n (atP B n (if lm = 5 then 8 else 6) 1) (opT B n)) (nxP B n ps)).1 ≠ 0 → rs.toInt = 0 ∧ flR gs A ((chP B n (atP B n (if lm = 5 then 8 else 6) 1) (opT B n)) (nxP B n ps)).1 ((chP B n (atP B n (if lm = 5 then 8 else 6) 1) (opT B n)) (nxP B n ps)).2.1 := bs
          have ofs : frM A [8] [2, 3, 4, 5, 9, 11, 12] f gs := frM_tr ofr (frM_tr (frM_su o58 (by decide) (by decide)) os)
          obtain ⟨cs, ts, ks⟩ := as2 hq
          refine t_ifne (t := 71) dX5_readSum_66 (by decide) (fun h66 => ?_) (fun h66 => False.elim (by omega))
          refine r_aloadR0 dX5_readSum_71 ?_
          refine r_iload3 dX5_readSum_72 ?_
          refine q_callV1 zm_RX5_173 dX5_readSum_73 hr.1 (by decide) rfl (Nat.le_of_ble_eq_true rfl) (Nat.le_of_ble_eq_true rfl) (Nat.le_of_ble_eq_true rfl) (Nat.le_of_ble_eq_true rfl) (Nat.le_of_ble_eq_true rfl) (s_X5_emit (u := u + c.length + ((chP B n (atP B n (if lm = 5 then 8 else 6) 1) (opT B n)) (nxP B n ps)).2.2.length) G hr ks.1 (by omega) (fun g73 o73 a73 b73 c73 => ?_))
          refine n_iinc2 dX5_readSum_76 (by decide) rfl (by omega) (fun r76 e76 => ?_)
          refine r_goto (t := 12) dX5_readSum_79 (by decide) ?_
          refine ih _ (i + 1) k2_z ((chP B n (atP B n (if lm = 5 then 8 else 6) 1) (opT B n)) (nxP B n ps)).2.1 (c ++ ((chP B n (atP B n (if lm = 5 then 8 else 6) 1) (opT B n)) (nxP B n ps)).2.2 ++ [(opS B n) ps]) g73 _ _ (by omega) (frM_tr ofs (frM_su o73 (by decide) (by decide))) (tkR_of ts o73 (by decide) (by decide) (by decide) (by decide)) (okR_ap (okR_ap hok (okR_cg ks wn rfl rfl)) ?_) (by omega) y2 ?_ (by omega) ?_ (by omega)
          · rw [List.length_append, ← Nat.add_assoc, hop]
            exact okR_one a73 b73 c73 (by omega)
          · rw [List.length_append, List.length_append, List.length_singleton]
            omega
          · exact (lpP_on (r := (0, ps, c)) rfl hop0 hq).symm.trans hR
        · have hv : ((chP B n (atP B n (if lm = 5 then 8 else 6) 1) (opT B n)) (nxP B n ps)) = chP B n (chP B n (atP B n (if lm = 5 then 8 else 6) 1) (opT B n)) (opS B n) p := (lpP_sub (k := k2_z) (r := (0, ps, c)) rfl hop0 hq).symm.trans hR
          refine r_iload2 dX5_readSum_12 ?_
          refine r_aloadR0 dX5_readSum_13 ?_
          refine m_getV (x := (f2_z A 1)) zf_RX5_15 rfl dX5_readSum_14 hr.1 (rfl) ?_
          refine t_icge (t := 82) dX5_readSum_17 (by decide) (fun h17 => False.elim (by omega)) (fun h17 => ?_)
          refine r_aloadR0 dX5_readSum_20 ?_
          refine m_getV (x := (f2_z A 4)) zf_RX5_25 rfl dX5_readSum_21 hr.1 (rfl) ?_
          refine n_bipush dX5_readSum_24 (by decide) (fun r24 e24_z => ?_)
          refine t_iceq (t := 38) dX5_readSum_26 (by decide) (fun h26 => False.elim (by omega)) (fun h26 => ?_)
          refine r_aloadR0 dX5_readSum_29 ?_
          refine m_getV (x := (f2_z A 4)) zf_RX5_25 rfl dX5_readSum_30 hr.1 (rfl) ?_
          refine n_bipush dX5_readSum_33 (by decide) (fun r33 e33_z => ?_)
          refine t_icne (t := 82) dX5_readSum_35 (by decide) (fun h35 => False.elim (by omega)) (fun h35 => ?_)
          refine r_aloadR0 dX5_readSum_38 ?_
          refine m_getV (x := (f2_z A 4)) zf_RX5_25 rfl dX5_readSum_39 hr.1 (rfl) ?_
          refine n_bipush dX5_readSum_42 (by decide) (fun r42 e42_z => ?_)
          refine t_icne (t := 53) dX5_readSum_44 (by decide) (fun h44 => ?_) (fun h44 => False.elim (by omega))
          refine n_sipush dX5_readSum_53 (by decide) (fun r53 e53 => ?_)
          refine r_istore3 dX5_readSum_56 rfl ?_
          refine r_aloadR0 dX5_readSum_57 ?_
          refine q_callV0 zm_RX5_73 dX5_readSum_58 hr.1 (by decide) rfl (Nat.le_of_ble_eq_true rfl) (Nat.le_of_ble_eq_true rfl) (Nat.le_of_ble_eq_true rfl) (Nat.le_of_ble_eq_true rfl) (Nat.le_of_ble_eq_true rfl) (s_X5_next (p := teP B n ps) G hr kw ko htp2 htk2.2.1 (teP_le htk2.1) htk2.2.2.2.2.2.2 (fun v58 g58 o58 t58 => ?_))
          have t58 : tkR ca B n g58 v58 A (nxP B n ps) := t58
          have htpn := tpR_of htp2 ht o58 (by decide)
          have wn : g58 (A + 8) = f2_z (A + 8) := o58.2.1 8 (by decide) (by decide) (by decide)
          refine r_aloadR0 dX5_readSum_61 ?_
          refine r_iload1 dX5_readSum_62 ?_
          refine q_callV1 zm_RX5_191 dX5_readSum_63 hr.1 (by decide) rfl (Nat.le_of_ble_eq_true rfl) (Nat.le_of_ble_eq_true rfl) (Nat.le_of_ble_eq_true rfl) (Nat.le_of_ble_eq_true rfl) (Nat.le_of_ble_eq_true rfl) (s_X5_readTerm_1 (lm := lm) (u := u + c.length) G hr kw ko htpn t58 hx (by rw [o58.2.2 10 (by decide), ofr.2.2 10 (by decide)]; exact hol) (by rw [o58.2.2 9 (by decide)]; exact hok.1) (by omega) (fun rs vs gs os as bs => ?_))
          have as2 : ((chP B n (atP B n (if lm = 5 then 8 else 6) 1) (opT B n)) (nxP B n ps)).1 = 0 → rs.toInt = 1 ∧ tkR ca B n gs vs A ((chP B n (atP B n (if lm = 5 then 8 else 6) 1) (opT B n)) (nxP B n ps)).2.1 ∧ okR g58 gs A (u + c.length) ((chP B n (atP B n (if lm = 5 then 8 else 6) 1) (opT B n)) (nxP B n ps)).2.2 := as
          have bs2 : ((chP B n (atP B n (if lm = 5 then 8 else 6) 1) (opT B n)) (nxP B n ps)).1 ≠ 0 → rs.toInt = 0 ∧ flR gs A ((chP B n (atP B n (if lm = 5 then 8 else 6) 1) (opT B n)) (nxP B n ps)).1 ((chP B n (atP B n (if lm = 5 then 8 else 6) 1) (opT B n)) (nxP B n ps)).2.1 := bs
          have ofs : frM A [8] [2, 3, 4, 5, 9, 11, 12] f gs := frM_tr ofr (frM_tr (frM_su o58 (by decide) (by decide)) os)
          obtain ⟨cs, ls⟩ := bs2 hq
          refine t_ifne (t := 71) dX5_readSum_66 (by decide) (fun h66 => False.elim (by omega)) (fun h66 => ?_)
          refine n_iconst dX5_readSum_69 (by decide) (fun r69 e69 => ?_)
          refine m_zret dX5_readSum_70 rfl (by omega) (Nat.le_of_ble_eq_true rfl) (Nat.le_of_ble_eq_true rfl) ?_
          rw [← hv] at hQ
          exact hQ _ _ gs ofs (fun h_z => absurd h_z hq) (fun _ => ⟨e69, ls⟩)
      have hop : (opS B n) ps = 0 := (if_neg hcn).trans (if_neg hc_z)
      have hv := (lpP_end (B := B) (n := n) (k := k) (sub := (chP B n (atP B n (if lm = 5 then 8 else 6) 1) (opT B n))) (r := (0, ps, c)) hop).symm.trans hR
      refine r_iload2 dX5_readSum_12 ?_
      refine r_aloadR0 dX5_readSum_13 ?_
      refine m_getV (x := (f2_z A 1)) zf_RX5_15 rfl dX5_readSum_14 hr.1 (rfl) ?_
      refine t_icge (t := 82) dX5_readSum_17 (by decide) (fun h17 => False.elim (by omega)) (fun h17 => ?_)
      refine r_aloadR0 dX5_readSum_20 ?_
      refine m_getV (x := (f2_z A 4)) zf_RX5_25 rfl dX5_readSum_21 hr.1 (rfl) ?_
      refine n_bipush dX5_readSum_24 (by decide) (fun r24 e24_z => ?_)
      refine t_iceq (t := 38) dX5_readSum_26 (by decide) (fun h26 => False.elim (by omega)) (fun h26 => ?_)
      refine r_aloadR0 dX5_readSum_29 ?_
      refine m_getV (x := (f2_z A 4)) zf_RX5_25 rfl dX5_readSum_30 hr.1 (rfl) ?_
      refine n_bipush dX5_readSum_33 (by decide) (fun r33 e33_z => ?_)
      refine t_icne (t := 82) dX5_readSum_35 (by decide) (fun h35 => ?_) (fun h35 => False.elim (by omega))
      refine n_iconst dX5_readSum_82 (by decide) (fun r82 e82 => ?_)
      refine m_zret dX5_readSum_83 rfl (by omega) (Nat.le_of_ble_eq_true rfl) (Nat.le_of_ble_eq_true rfl) ?_
      rw [← hv] at hQ
      exact hQ _ _ f2_z ofr (fun _ => ⟨e82, htk2, hok⟩) (fun h_z => absurd rfl h_z)
  have gp := hgd p hpn
  by_cases hq : ((chP B n (atP B n (if lm = 5 then 8 else 6) 1) (opT B n)) p).1 = 0
  · obtain ⟨y1, y2, y3, y4⟩ := gp.1 hq
    have hz : ((chP B n (atP B n (if lm = 5 then 8 else 6) 1) (opT B n)) p) = (0, ((chP B n (atP B n (if lm = 5 then 8 else 6) 1) (opT B n)) p).2.1, ((chP B n (atP B n (if lm = 5 then 8 else 6) 1) (opT B n)) p).2.2) := Prod.ext hq rfl
    refine r_aloadR0 dX5_readSum_0 ?_
    refine r_iload1 dX5_readSum_1 ?_
    refine q_callV1 zm_RX5_191 dX5_readSum_2 hr.1 (by decide) rfl (Nat.le_of_ble_eq_true rfl) (Nat.le_of_ble_eq_true rfl) (Nat.le_of_ble_eq_true rfl) (Nat.le_of_ble_eq_true rfl) (Nat.le_of_ble_eq_true rfl) (s_X5_readTerm_1 G hr kw ko htp htk hx hol hu hup (fun r2 v2 g2 o2 a2 b2 => ?_))
    have a2b : ((chP B n (atP B n (if lm = 5 then 8 else 6) 1) (opT B n)) p).1 = 0 → r2.toInt = 1 ∧ tkR ca B n g2 v2 A ((chP B n (atP B n (if lm = 5 then 8 else 6) 1) (opT B n)) p).2.1 ∧ okR f g2 A u ((chP B n (atP B n (if lm = 5 then 8 else 6) 1) (opT B n)) p).2.2 := a2
    have b2b : ((chP B n (atP B n (if lm = 5 then 8 else 6) 1) (opT B n)) p).1 ≠ 0 → r2.toInt = 0 ∧ flR g2 A ((chP B n (atP B n (if lm = 5 then 8 else 6) 1) (opT B n)) p).1 ((chP B n (atP B n (if lm = 5 then 8 else 6) 1) (opT B n)) p).2.1 := b2
    obtain ⟨c2_z, t2, k2_z⟩ := a2b hq
    refine t_ifne (t := 10) dX5_readSum_5 (by decide) (fun h5 => ?_) (fun h5 => False.elim (by omega))
    refine n_iconst dX5_readSum_10 (by decide) (fun r10 e10_z => ?_)
    refine r_istore2 dX5_readSum_11 rfl ?_
    exact lp (n + 1) _ 0 n ((chP B n (atP B n (if lm = 5 then 8 else 6) 1) (opT B n)) p).2.1 ((chP B n (atP B n (if lm = 5 then 8 else 6) 1) (opT B n)) p).2.2 g2 _ _ (by omega) o2 t2 k2_z (by omega) y2 y3 (by omega) (by rw [← hz]; rfl) (Nat.lt_succ_self n)
  · have hv : chP B n (chP B n (atP B n (if lm = 5 then 8 else 6) 1) (opT B n)) (opS B n) p = ((chP B n (atP B n (if lm = 5 then 8 else 6) 1) (opT B n)) p) := lpP_bad hq
    rw [hv] at hQ
    refine r_aloadR0 dX5_readSum_0 ?_
    refine r_iload1 dX5_readSum_1 ?_
    refine q_callV1 zm_RX5_191 dX5_readSum_2 hr.1 (by decide) rfl (Nat.le_of_ble_eq_true rfl) (Nat.le_of_ble_eq_true rfl) (Nat.le_of_ble_eq_true rfl) (Nat.le_of_ble_eq_true rfl) (Nat.le_of_ble_eq_true rfl) (s_X5_readTerm_1 G hr kw ko htp htk hx hol hu hup (fun r2 v2 g2 o2 a2 b2 => ?_))
    have a2b : ((chP B n (atP B n (if lm = 5 then 8 else 6) 1) (opT B n)) p).1 = 0 → r2.toInt = 1 ∧ tkR ca B n g2 v2 A ((chP B n (atP B n (if lm = 5 then 8 else 6) 1) (opT B n)) p).2.1 ∧ okR f g2 A u ((chP B n (atP B n (if lm = 5 then 8 else 6) 1) (opT B n)) p).2.2 := a2
    have b2b : ((chP B n (atP B n (if lm = 5 then 8 else 6) 1) (opT B n)) p).1 ≠ 0 → r2.toInt = 0 ∧ flR g2 A ((chP B n (atP B n (if lm = 5 then 8 else 6) 1) (opT B n)) p).1 ((chP B n (atP B n (if lm = 5 then 8 else 6) 1) (opT B n)) p).2.1 := b2
    obtain ⟨c2_z, l2⟩ := b2b hq
    refine t_ifne (t := 10) dX5_readSum_5 (by decide) (fun h5 => False.elim (by omega)) (fun h5 => ?_)
    refine n_iconst dX5_readSum_8 (by decide) (fun r8 e8 => ?_)
    refine m_zret dX5_readSum_9 rfl (by omega) (Nat.le_of_ble_eq_true rfl) (Nat.le_of_ble_eq_true rfl) ?_
    exact hQ _ _ g2 o2 (fun h_z => absurd h_z hq) (fun _ => ⟨e8, l2⟩)
set_option maxHeartbeats 4000000 in
set_option maxRecDepth 100000 in
theorem s_X5_readAtom_2 {g : zGT} {w : zW} {f : Nat → Nat → Int32} {j : Nat → Nat → Int64} {A tq nq : Nat} {v : Option Nat} {B : Nat → Nat} {n : Nat} {ca wa wv : Nat → Nat} {kq ta sm gq gv : Nat} {p lm u : Nat} {x : Int32} {Q : Option Value → zW → Prop} {QX : String → zW → Prop} (G : zGok g) (hr : shRd w A tq nq) (kw : kWd g wa wv kq) (ko : kWo g ca wa wv ta sm gq gv) (htp : tpR B n f A tq) (htk : tkR ca B n f v A p) (hx : x.toInt = 4) (hol : (f A 10).toInt = if lm = 5 then 1 else 0) (hu : (f A 9).toInt = (u : Nat)) (hup : u ≤ p) (hQ : ∀ (b : Int32) v2 f2_z, frM A [8] [2, 3, 4, 5, 9, 11, 12] f f2_z → ((atP B n (if lm = 5 then 8 else 6) 2 p).1 = 0 → b.toInt = 1 ∧ tkR ca B n f2_z v2 A (atP B n (if lm = 5 then 8 else 6) 2 p).2.1 ∧ okR f f2_z A u (atP B n (if lm = 5 then 8 else 6) 2 p).2.2) → ((atP B n (if lm = 5 then 8 else 6) 2 p).1 ≠ 0 → b.toInt = 0 ∧ flR f2_z A (atP B n (if lm = 5 then 8 else 6) 2 p).1 (atP B n (if lm = 5 then 8 else 6) 2 p).2.1) → Q (some (.int b)) (zM (wW w A v2) f2_z j)) : zC g 18 yX5_readAtom cX5_readAtom 3 (some .boolean) [.ref A, .int x] (zM (wW w A v) f j) (0, 0) Q QX := by
  refine zC_of G (by decide +kernel) (Nat.le_of_ble_eq_true rfl) ?_
  have ht := hr.2.2.2.2.2.2
  have h4 := htk.2.2.2.1
  have hpn := htk.1
  have h900 := htp.2.1
  by_cases hp : tkP B n p = 40
  · have hv : atP B n (if lm = 5 then 8 else 6) 2 p = clP B n 41 (suP B n (atP B n (if lm = 5 then 8 else 6) 1) (nxP B n p)) := if_pos hp
    rw [hv] at hQ
    have hln := tk_lt (B := B) (n := n) (s := p) (by rw [hp]; decide)
    have hnx := nxP_gt (B := B) hln
    by_cases hq : (suP B n (atP B n (if lm = 5 then 8 else 6) 1) (nxP B n p)).1 = 0
    · by_cases h41 : tkP B n (suP B n (atP B n (if lm = 5 then 8 else 6) 1) (nxP B n p)).2.1 = 41
      · have hv2 : clP B n 41 (suP B n (atP B n (if lm = 5 then 8 else 6) 1) (nxP B n p)) = (0, nxP B n (suP B n (atP B n (if lm = 5 then 8 else 6) 1) (nxP B n p)).2.1, (suP B n (atP B n (if lm = 5 then 8 else 6) 1) (nxP B n p)).2.2) := (if_neg (not_not_intro hq)).trans (if_pos h41)
        rw [hv2] at hQ
        refine r_aloadR0 dX5_readAtom_0 ?_
        refine m_getV (x := (f A 4)) zf_RX5_25 rfl dX5_readAtom_1 hr.1 (rfl) ?_
        refine n_bipush dX5_readAtom_4 (by decide) (fun r4 e4_z => ?_)
        refine t_icne (t := 42) dX5_readAtom_6 (by decide) (fun h6 => False.elim (by omega)) (fun h6 => ?_)
        refine r_aloadR0 dX5_readAtom_9 ?_
        refine r_iload1 dX5_readAtom_10 ?_
        refine q_callV1 zm_RX5_185 dX5_readAtom_11 hr.1 (by decide) rfl (Nat.le_of_ble_eq_true rfl) (Nat.le_of_ble_eq_true rfl) (Nat.le_of_ble_eq_true rfl) (Nat.le_of_ble_eq_true rfl) (Nat.le_of_ble_eq_true rfl) (s_X5_goDeeper (d := 4) G hr kw ko htp hx htk (fun r11 v11 g11 o11 a11 b11 => ?_))
        obtain ⟨c11, t11⟩ := a11 (by decide)
        have htp11 := tpR_of htp ht o11 (by decide)
        have w11 : g11 (A + 8) = f (A + 8) := o11.2.1 8 (by decide) (by decide) (by decide)
        refine t_ifeq (t := 40) dX5_readAtom_14 (by decide) (fun h14 => False.elim (by omega)) (fun h14 => ?_)
        refine r_aloadR0 dX5_readAtom_17 ?_
        refine r_iload1 dX5_readAtom_18 ?_
        refine n_iconst dX5_readAtom_19 (by decide) (fun r19 e19_z => ?_)
        refine n_iadd dX5_readAtom_20 (by omega) (fun r20 e20 => ?_)
        refine q_callV1 zm_RX5_146 dX5_readAtom_21 hr.1 (by decide) rfl (Nat.le_of_ble_eq_true rfl) (Nat.le_of_ble_eq_true rfl) (Nat.le_of_ble_eq_true rfl) (Nat.le_of_ble_eq_true rfl) (Nat.le_of_ble_eq_true rfl) (s_X5_readSum_1 (lm := lm) (u := u) G hr kw ko htp11 t11 (by omega) (by rw [o11.2.2 10 (by decide)]; exact hol) (by rw [o11.2.2 9 (by decide)]; exact hu) (by omega) (fun r21 v21 g21 o21 a21 b21 => ?_))
        have a21b : (suP B n (atP B n (if lm = 5 then 8 else 6) 1) (nxP B n p)).1 = 0 → r21.toInt = 1 ∧ tkR ca B n g21 v21 A (suP B n (atP B n (if lm = 5 then 8 else 6) 1) (nxP B n p)).2.1 ∧ okR g11 g21 A u (suP B n (atP B n (if lm = 5 then 8 else 6) 1) (nxP B n p)).2.2 := a21
        have b21b : (suP B n (atP B n (if lm = 5 then 8 else 6) 1) (nxP B n p)).1 ≠ 0 → r21.toInt = 0 ∧ flR g21 A (suP B n (atP B n (if lm = 5 then 8 else 6) 1) (nxP B n p)).1 (suP B n (atP B n (if lm = 5 then 8 else 6) 1) (nxP B n p)).2.1 := b21
        have of21 : frM A [8] [2, 3, 4, 5, 9, 11, 12] f g21 := frM_tr (frM_su o11 (by decide) (by decide)) o21
        obtain ⟨c21, t21, k21⟩ := a21b hq
        refine t_ifeq (t := 40) dX5_readAtom_24 (by decide) (fun h24 => False.elim (by omega)) (fun h24 => ?_)
        refine r_aloadR0 dX5_readAtom_27 ?_
        refine n_bipush dX5_readAtom_28 (by decide) (fun r28 e28_z => ?_)
        refine q_callV1 zm_RX5_102 dX5_readAtom_30 hr.1 (by decide) rfl (Nat.le_of_ble_eq_true rfl) (Nat.le_of_ble_eq_true rfl) (Nat.le_of_ble_eq_true rfl) (Nat.le_of_ble_eq_true rfl) (Nat.le_of_ble_eq_true rfl) (s_X5_takeSign (s := (suP B n (atP B n (if lm = 5 then 8 else 6) 1) (nxP B n p)).2.1) (c := 41) G hr kw ko (tpR_of htp ht of21 (by decide)) e28_z t21 (fun r30 v30 g30 o30 a30 b30 => ?_))
        obtain ⟨c30, t30⟩ := a30 h41
        refine t_ifeq (t := 40) dX5_readAtom_33 (by decide) (fun h33 => False.elim (by omega)) (fun h33 => ?_)
        refine n_iconst dX5_readAtom_36 (by decide) (fun r36 e36 => ?_)
        refine r_goto (t := 41) dX5_readAtom_37 (by decide) ?_
        refine m_zret dX5_readAtom_41 rfl (by omega) (Nat.le_of_ble_eq_true rfl) (Nat.le_of_ble_eq_true rfl) ?_
        exact hQ _ _ g30 (frM_tr of21 (frM_su o30 (by decide) (by decide))) (fun _ => ⟨e36, t30, okR_cg k21 w11 (o30.2.1 8 (by decide) (by decide) (by decide)) (o30.2.2 9 (by decide))⟩) (fun h_z => absurd rfl h_z)
      · have hv2 : clP B n 41 (suP B n (atP B n (if lm = 5 then 8 else 6) 1) (nxP B n p)) = (baP B n (suP B n (atP B n (if lm = 5 then 8 else 6) 1) (nxP B n p)).2.1, (suP B n (atP B n (if lm = 5 then 8 else 6) 1) (nxP B n p)).2.1, []) := (if_neg (not_not_intro hq)).trans (if_neg h41)
        rw [hv2] at hQ
        refine r_aloadR0 dX5_readAtom_0 ?_
        refine m_getV (x := (f A 4)) zf_RX5_25 rfl dX5_readAtom_1 hr.1 (rfl) ?_
        refine n_bipush dX5_readAtom_4 (by decide) (fun r4 e4_z => ?_)
        refine t_icne (t := 42) dX5_readAtom_6 (by decide) (fun h6 => False.elim (by omega)) (fun h6 => ?_)
        refine r_aloadR0 dX5_readAtom_9 ?_
        refine r_iload1 dX5_readAtom_10 ?_
        refine q_callV1 zm_RX5_185 dX5_readAtom_11 hr.1 (by decide) rfl (Nat.le_of_ble_eq_true rfl) (Nat.le_of_ble_eq_true rfl) (Nat.le_of_ble_eq_true rfl) (Nat.le_of_ble_eq_true rfl) (Nat.le_of_ble_eq_true rfl) (s_X5_goDeeper (d := 4) G hr kw ko htp hx htk (fun r11 v11 g11 o11 a11 b11 => ?_))
        obtain ⟨c11, t11⟩ := a11 (by decide)
        have htp11 := tpR_of htp ht o11 (by decide)
        have w11 : g11 (A + 8) = f (A + 8) := o11.2.1 8 (by decide) (by decide) (by decide)
        refine t_ifeq (t := 40) dX5_readAtom_14 (by decide) (fun h14 => False.elim (by omega)) (fun h14 => ?_)
        refine r_aloadR0 dX5_readAtom_17 ?_
        refine r_iload1 dX5_readAtom_18 ?_
        refine n_iconst dX5_readAtom_19 (by decide) (fun r19 e19_z => ?_)
        refine n_iadd dX5_readAtom_20 (by omega) (fun r20 e20 => ?_)
        refine q_callV1 zm_RX5_146 dX5_readAtom_21 hr.1 (by decide) rfl (Nat.le_of_ble_eq_true rfl) (Nat.le_of_ble_eq_true rfl) (Nat.le_of_ble_eq_true rfl) (Nat.le_of_ble_eq_true rfl) (Nat.le_of_ble_eq_true rfl) (s_X5_readSum_1 (lm := lm) (u := u) G hr kw ko htp11 t11 (by omega) (by rw [o11.2.2 10 (by decide)]; exact hol) (by rw [o11.2.2 9 (by decide)]; exact hu) (by omega) (fun r21 v21 g21 o21 a21 b21 => ?_))
        have a21b : (suP B n (atP B n (if lm = 5 then 8 else 6) 1) (nxP B n p)).1 = 0 → r21.toInt = 1 ∧ tkR ca B n g21 v21 A (suP B n (atP B n (if lm = 5 then 8 else 6) 1) (nxP B n p)).2.1 ∧ okR g11 g21 A u (suP B n (atP B n (if lm = 5 then 8 else 6) 1) (nxP B n p)).2.2 := a21
        have b21b : (suP B n (atP B n (if lm = 5 then 8 else 6) 1) (nxP B n p)).1 ≠ 0 → r21.toInt = 0 ∧ flR g21 A (suP B n (atP B n (if lm = 5 then 8 else 6) 1) (nxP B n p)).1 (suP B n (atP B n (if lm = 5 then 8 else 6) 1) (nxP B n p)).2.1 := b21
        have of21 : frM A [8] [2, 3, 4, 5, 9, 11, 12] f g21 := frM_tr (frM_su o11 (by decide) (by decide)) o21
        obtain ⟨c21, t21, k21⟩ := a21b hq
        refine t_ifeq (t := 40) dX5_readAtom_24 (by decide) (fun h24 => False.elim (by omega)) (fun h24 => ?_)
        refine r_aloadR0 dX5_readAtom_27 ?_
        refine n_bipush dX5_readAtom_28 (by decide) (fun r28 e28_z => ?_)
        refine q_callV1 zm_RX5_102 dX5_readAtom_30 hr.1 (by decide) rfl (Nat.le_of_ble_eq_true rfl) (Nat.le_of_ble_eq_true rfl) (Nat.le_of_ble_eq_true rfl) (Nat.le_of_ble_eq_true rfl) (Nat.le_of_ble_eq_true rfl) (s_X5_takeSign (s := (suP B n (atP B n (if lm = 5 then 8 else 6) 1) (nxP B n p)).2.1) (c := 41) G hr kw ko (tpR_of htp ht of21 (by decide)) e28_z t21 (fun r30 v30 g30 o30 a30 b30 => ?_))
        obtain ⟨c30, l30⟩ := b30 h41
        refine t_ifeq (t := 40) dX5_readAtom_33 (by decide) (fun h33 => ?_) (fun h33 => False.elim (by omega))
        refine n_iconst dX5_readAtom_40 (by decide) (fun r40 e40 => ?_)
        refine m_zret dX5_readAtom_41 rfl (by omega) (Nat.le_of_ble_eq_true rfl) (Nat.le_of_ble_eq_true rfl) ?_
        exact hQ _ _ g30 (frM_tr of21 (frM_su o30 (by decide) (by decide))) (fun h_z => absurd h_z ba_bd.1) (fun _ => ⟨e40, l30⟩)
    · have hv2 : clP B n 41 (suP B n (atP B n (if lm = 5 then 8 else 6) 1) (nxP B n p)) = (suP B n (atP B n (if lm = 5 then 8 else 6) 1) (nxP B n p)) := if_pos hq
      rw [hv2] at hQ
      refine r_aloadR0 dX5_readAtom_0 ?_
      refine m_getV (x := (f A 4)) zf_RX5_25 rfl dX5_readAtom_1 hr.1 (rfl) ?_
      refine n_bipush dX5_readAtom_4 (by decide) (fun r4 e4_z => ?_)
      refine t_icne (t := 42) dX5_readAtom_6 (by decide) (fun h6 => False.elim (by omega)) (fun h6 => ?_)
      refine r_aloadR0 dX5_readAtom_9 ?_
      refine r_iload1 dX5_readAtom_10 ?_
      refine q_callV1 zm_RX5_185 dX5_readAtom_11 hr.1 (by decide) rfl (Nat.le_of_ble_eq_true rfl) (Nat.le_of_ble_eq_true rfl) (Nat.le_of_ble_eq_true rfl) (Nat.le_of_ble_eq_true rfl) (Nat.le_of_ble_eq_true rfl) (s_X5_goDeeper (d := 4) G hr kw ko htp hx htk (fun r11 v11 g11 o11 a11 b11 => ?_))
      obtain ⟨c11, t11⟩ := a11 (by decide)
      have htp11 := tpR_of htp ht o11 (by decide)
      have w11 : g11 (A + 8) = f (A + 8) := o11.2.1 8 (by decide) (by decide) (by decide)
      refine t_ifeq (t := 40) dX5_readAtom_14 (by decide) (fun h14 => False.elim (by omega)) (fun h14 => ?_)
      refine r_aloadR0 dX5_readAtom_17 ?_
      refine r_iload1 dX5_readAtom_18 ?_
      refine n_iconst dX5_readAtom_19 (by decide) (fun r19 e19_z => ?_)
      refine n_iadd dX5_readAtom_20 (by omega) (fun r20 e20 => ?_)
      refine q_callV1 zm_RX5_146 dX5_readAtom_21 hr.1 (by decide) rfl (Nat.le_of_ble_eq_true rfl) (Nat.le_of_ble_eq_true rfl) (Nat.le_of_ble_eq_true rfl) (Nat.le_of_ble_eq_true rfl) (Nat.le_of_ble_eq_true rfl) (s_X5_readSum_1 (lm := lm) (u := u) G hr kw ko htp11 t11 (by omega) (by rw [o11.2.2 10 (by decide)]; exact hol) (by rw [o11.2.2 9 (by decide)]; exact hu) (by omega) (fun r21 v21 g21 o21 a21 b21 => ?_))
      have a21b : (suP B n (atP B n (if lm = 5 then 8 else 6) 1) (nxP B n p)).1 = 0 → r21.toInt = 1 ∧ tkR ca B n g21 v21 A (suP B n (atP B n (if lm = 5 then 8 else 6) 1) (nxP B n p)).2.1 ∧ okR g11 g21 A u (suP B n (atP B n (if lm = 5 then 8 else 6) 1) (nxP B n p)).2.2 := a21
      have b21b : (suP B n (atP B n (if lm = 5 then 8 else 6) 1) (nxP B n p)).1 ≠ 0 → r21.toInt = 0 ∧ flR g21 A (suP B n (atP B n (if lm = 5 then 8 else 6) 1) (nxP B n p)).1 (suP B n (atP B n (if lm = 5 then 8 else 6) 1) (nxP B n p)).2.1 := b21
      have of21 : frM A [8] [2, 3, 4, 5, 9, 11, 12] f g21 := frM_tr (frM_su o11 (by decide) (by decide)) o21
      obtain ⟨c21, l21⟩ := b21b hq
      refine t_ifeq (t := 40) dX5_readAtom_24 (by decide) (fun h24 => ?_) (fun h24 => False.elim (by omega))
      refine n_iconst dX5_readAtom_40 (by decide) (fun r40 e40 => ?_)
      refine m_zret dX5_readAtom_41 rfl (by omega) (Nat.le_of_ble_eq_true rfl) (Nat.le_of_ble_eq_true rfl) ?_
      exact hQ _ _ g21 of21 (fun h_z => absurd h_z hq) (fun _ => ⟨e40, l21⟩)
  have hv0 : atP B n (if lm = 5 then 8 else 6) 2 p = a1P B n (if lm = 5 then 8 else 6) p := if_neg hp
  rw [hv0] at hQ
  by_cases h2 : tkP B n p = 2
  · have hv : a1P B n (if lm = 5 then 8 else 6) p = (0, nxP B n p, [nmP B n p]) := a1_num h2
    rw [hv] at hQ
    have hln := (tk2 h2).1
    have h5 := htk.2.2.2.2.1 h2
    refine r_aloadR0 dX5_readAtom_0 ?_
    refine m_getV (x := (f A 4)) zf_RX5_25 rfl dX5_readAtom_1 hr.1 (rfl) ?_
    refine n_bipush dX5_readAtom_4 (by decide) (fun r4 e4_z => ?_)
    refine t_icne (t := 42) dX5_readAtom_6 (by decide) (fun h6 => ?_) (fun h6 => False.elim (by omega))
    refine r_aloadR0 dX5_readAtom_42 ?_
    refine m_getV (x := (f A 4)) zf_RX5_25 rfl dX5_readAtom_43 hr.1 (rfl) ?_
    refine n_iconst dX5_readAtom_46 (by decide) (fun r46 e46 => ?_)
    refine t_icne (t := 64) dX5_readAtom_47 (by decide) (fun h47 => False.elim (by omega)) (fun h47 => ?_)
    refine r_aloadR0 dX5_readAtom_50 ?_
    refine r_aloadR0 dX5_readAtom_51 ?_
    refine m_getV (x := (f A 5)) zf_RX5_28 rfl dX5_readAtom_52 hr.1 (rfl) ?_
    refine q_callV1 zm_RX5_173 dX5_readAtom_55 hr.1 (by decide) rfl (Nat.le_of_ble_eq_true rfl) (Nat.le_of_ble_eq_true rfl) (Nat.le_of_ble_eq_true rfl) (Nat.le_of_ble_eq_true rfl) (Nat.le_of_ble_eq_true rfl) (s_X5_emit (u := u) G hr hu (by omega) (fun g55 o55 a55 b55 c55 => ?_))
    have t55 := tkR_of htk o55 (by decide) (by decide) (by decide) (by decide)
    have htp55 := tpR_of htp ht o55 (by decide)
    refine r_aloadR0 dX5_readAtom_58 ?_
    refine q_callV0 zm_RX5_73 dX5_readAtom_59 hr.1 (by decide) rfl (Nat.le_of_ble_eq_true rfl) (Nat.le_of_ble_eq_true rfl) (Nat.le_of_ble_eq_true rfl) (Nat.le_of_ble_eq_true rfl) (Nat.le_of_ble_eq_true rfl) (s_X5_next (p := teP B n p) G hr kw ko htp55 t55.2.1 (teP_le t55.1) t55.2.2.2.2.2.2 (fun v59 g59 o59 t59 => ?_))
    have t59 : tkR ca B n g59 v59 A (nxP B n p) := t59
    refine n_iconst dX5_readAtom_62 (by decide) (fun r62 e62 => ?_)
    refine m_zret dX5_readAtom_63 rfl (by omega) (Nat.le_of_ble_eq_true rfl) (Nat.le_of_ble_eq_true rfl) ?_
    exact hQ _ _ g59 (frM_tr (frM_su o55 (by decide) (by decide)) (frM_su o59 (by decide) (by decide))) (fun _ => ⟨e62, t59, okR_cg (okR_one a55 b55 c55 h5) rfl (o59.2.1 8 (by decide) (by decide) (by decide)) (o59.2.2 9 (by decide))⟩) (fun h_z => absurd rfl h_z)
  have hwl := wd_le (B := B) (n := n) (s := p)
  have f1_z := fcI_ne (wdP B n p) (by omega)
  have f2_z := fcI_eq (wdP B n p) (by omega)
  have f3_z := fcP_a (wdP B n p) (by omega)
  have f9_z := fcP_9 (wdP B n p) (by omega)
  by_cases hf : tkP B n p = 3 ∧ fcP (wdP B n p) < (if lm = 5 then 8 else 6)
  · have hv : a1P B n (if lm = 5 then 8 else 6) p = (0, nxP B n p, [1000 + fcP (wdP B n p)]) := a1_fact hf
    rw [hv] at hQ
    have hv3 := htk.2.2.2.2.2.1 hf.1
    have hf8 : fcP (wdP B n p) < 8 := Nat.lt_of_lt_of_le hf.2 (by split <;> decide)
    have hln := tk_lt (B := B) (n := n) (s := p) (by rw [hf.1]; decide)
    have g3_z := f2_z (by omega)
    have n1 : (fcI (wdP B n p)).toInt ≠ -1 := fun h_z => by have := f1_z.mp h_z; omega
    by_cases h5l : lm = 5
    · rw [if_pos h5l] at hol
      refine r_aloadR0 dX5_readAtom_0 ?_
      refine m_getV (x := (f A 4)) zf_RX5_25 rfl dX5_readAtom_1 hr.1 (rfl) ?_
      refine n_bipush dX5_readAtom_4 (by decide) (fun r4 e4_z => ?_)
      refine t_icne (t := 42) dX5_readAtom_6 (by decide) (fun h6 => ?_) (fun h6 => False.elim (by omega))
      refine r_aloadR0 dX5_readAtom_42 ?_
      refine m_getV (x := (f A 4)) zf_RX5_25 rfl dX5_readAtom_43 hr.1 (rfl) ?_
      refine n_iconst dX5_readAtom_46 (by decide) (fun r46 e46 => ?_)
      refine t_icne (t := 64) dX5_readAtom_47 (by decide) (fun h47 => ?_) (fun h47 => False.elim (by omega))
      refine r_aloadR0 dX5_readAtom_64 ?_
      refine m_getV (x := (f A 4)) zf_RX5_25 rfl dX5_readAtom_65 hr.1 (rfl) ?_
      refine n_iconst dX5_readAtom_68 (by decide) (fun r68 e68 => ?_)
      refine t_icne (t := 104) dX5_readAtom_69 (by decide) (fun h69 => False.elim (by omega)) (fun h69 => ?_)
      refine r_aloadR0 dX5_readAtom_72 ?_
      refine m_getR (q := (ca (wdP B n p))) zf_RX5_37 rfl dX5_readAtom_73 hr.1 (zu_at.trans hv3) ?_
      refine k_getf (fun U hU => (ko.2.2.2.2.1 _ (Nat.lt_succ_of_le wd_le) U hU).2.2.1) zg_RX5_197 dX5_readAtom_76 ?_
      refine n_iconst dX5_readAtom_79 (by decide) (fun r79 e79 => ?_)
      refine t_iceq (t := 104) dX5_readAtom_80 (by decide) (fun h80 => False.elim (by omega)) (fun h80 => ?_)
      refine r_aloadR0 dX5_readAtom_83 ?_
      refine m_getV (x := (f A 10)) zf_RX5_54 rfl dX5_readAtom_84 hr.1 (rfl) ?_
      refine t_ifne (t := 100) dX5_readAtom_87 (by decide) (fun h87 => ?_) (fun h87 => False.elim (by omega))
      refine n_iconst dX5_readAtom_100 (by decide) (fun r100 e100_z => ?_)
      refine r_goto (t := 105) dX5_readAtom_101 (by decide) ?_
      refine r_istore2 dX5_readAtom_105 rfl ?_
      refine r_iload2 dX5_readAtom_106 ?_
      refine t_ifne (t := 115) dX5_readAtom_107 (by decide) (fun h107 => ?_) (fun h107 => False.elim (by omega))
      refine r_aloadR0 dX5_readAtom_115 ?_
      refine n_sipush dX5_readAtom_116 (by decide) (fun r116 e116 => ?_)
      refine r_aloadR0 dX5_readAtom_119 ?_
      refine m_getR (q := (ca (wdP B n p))) zf_RX5_37 rfl dX5_readAtom_120 hr.1 (zu_at.trans hv3) ?_
      refine k_getf (fun U hU => (ko.2.2.2.2.1 _ (Nat.lt_succ_of_le wd_le) U hU).2.2.1) zg_RX5_197 dX5_readAtom_123 ?_
      refine n_iadd dX5_readAtom_126 (by omega) (fun r126 e126 => ?_)
      refine q_callV1 zm_RX5_173 dX5_readAtom_127 hr.1 (by decide) rfl (Nat.le_of_ble_eq_true rfl) (Nat.le_of_ble_eq_true rfl) (Nat.le_of_ble_eq_true rfl) (Nat.le_of_ble_eq_true rfl) (Nat.le_of_ble_eq_true rfl) (s_X5_emit (u := u) G hr hu (by omega) (fun g127 o127 a127 b127 c127 => ?_))
      have t127 := tkR_of htk o127 (by decide) (by decide) (by decide) (by decide)
      have htp127 := tpR_of htp ht o127 (by decide)
      refine r_aloadR0 dX5_readAtom_130 ?_
      refine q_callV0 zm_RX5_73 dX5_readAtom_131 hr.1 (by decide) rfl (Nat.le_of_ble_eq_true rfl) (Nat.le_of_ble_eq_true rfl) (Nat.le_of_ble_eq_true rfl) (Nat.le_of_ble_eq_true rfl) (Nat.le_of_ble_eq_true rfl) (s_X5_next (p := teP B n p) G hr kw ko htp127 t127.2.1 (teP_le t127.1) t127.2.2.2.2.2.2 (fun v131 g131 o131 t131 => ?_))
      have t131 : tkR ca B n g131 v131 A (nxP B n p) := t131
      refine n_iconst dX5_readAtom_134 (by decide) (fun r134 e134 => ?_)
      refine m_zret dX5_readAtom_135 rfl (by omega) (Nat.le_of_ble_eq_true rfl) (Nat.le_of_ble_eq_true rfl) ?_
      exact hQ _ _ g131 (frM_tr (frM_su o127 (by decide) (by decide)) (frM_su o131 (by decide) (by decide))) (fun _ => ⟨e134, t131, okR_cg (okR_one a127 b127 c127 (by omega)) rfl (o131.2.1 8 (by decide) (by decide) (by decide)) (o131.2.2 9 (by decide))⟩) (fun h_z => absurd rfl h_z)
    · rw [if_neg h5l] at hol
      have h6 : fcP (wdP B n p) < 6 := by have h7 := hf.2; rw [if_neg h5l] at h7; exact h7
      have hna := (f3_z hf8).mp h6
      refine r_aloadR0 dX5_readAtom_0 ?_
      refine m_getV (x := (f A 4)) zf_RX5_25 rfl dX5_readAtom_1 hr.1 (rfl) ?_
      refine n_bipush dX5_readAtom_4 (by decide) (fun r4 e4_z => ?_)
      refine t_icne (t := 42) dX5_readAtom_6 (by decide) (fun h6 => ?_) (fun h6 => False.elim (by omega))
      refine r_aloadR0 dX5_readAtom_42 ?_
      refine m_getV (x := (f A 4)) zf_RX5_25 rfl dX5_readAtom_43 hr.1 (rfl) ?_
      refine n_iconst dX5_readAtom_46 (by decide) (fun r46 e46 => ?_)
      refine t_icne (t := 64) dX5_readAtom_47 (by decide) (fun h47 => ?_) (fun h47 => False.elim (by omega))
      refine r_aloadR0 dX5_readAtom_64 ?_
      refine m_getV (x := (f A 4)) zf_RX5_25 rfl dX5_readAtom_65 hr.1 (rfl) ?_
      refine n_iconst dX5_readAtom_68 (by decide) (fun r68 e68 => ?_)
      refine t_icne (t := 104) dX5_readAtom_69 (by decide) (fun h69 => False.elim (by omega)) (fun h69 => ?_)
      refine r_aloadR0 dX5_readAtom_72 ?_
      refine m_getR (q := (ca (wdP B n p))) zf_RX5_37 rfl dX5_readAtom_73 hr.1 (zu_at.trans hv3) ?_
      refine k_getf (fun U hU => (ko.2.2.2.2.1 _ (Nat.lt_succ_of_le wd_le) U hU).2.2.1) zg_RX5_197 dX5_readAtom_76 ?_
      refine n_iconst dX5_readAtom_79 (by decide) (fun r79 e79 => ?_)
      refine t_iceq (t := 104) dX5_readAtom_80 (by decide) (fun h80 => False.elim (by omega)) (fun h80 => ?_)
      refine r_aloadR0 dX5_readAtom_83 ?_
      refine m_getV (x := (f A 10)) zf_RX5_54 rfl dX5_readAtom_84 hr.1 (rfl) ?_
      refine t_ifne (t := 100) dX5_readAtom_87 (by decide) (fun h87 => False.elim (by omega)) (fun h87 => ?_)
      refine r_aloadR0 dX5_readAtom_90 ?_
      refine m_getR (q := (ca (wdP B n p))) zf_RX5_37 rfl dX5_readAtom_91 hr.1 (zu_at.trans hv3) ?_
      refine k_callV0 zm_RX5_200 dX5_readAtom_94 (fun U hU => (ko.2.2.2.2.1 _ (Nat.lt_succ_of_le wd_le) U hU).1) (Nat.le_of_ble_eq_true rfl) (Nat.le_of_ble_eq_true rfl) (Nat.le_of_ble_eq_true rfl) (Nat.le_of_ble_eq_true rfl) (Nat.le_of_ble_eq_true rfl) (s_X10_isOfLikesAlone (i := wdP B n p) G kw ko (by omega) (fun r94 e94_z => ?_))
      refine t_ifne (t := 104) dX5_readAtom_97 (by decide) (fun h97 => False.elim (e94_z.elim (fun h_z => hna h_z.2) (fun h_z => by omega))) (fun h97 => ?_)
      refine n_iconst dX5_readAtom_100 (by decide) (fun r100 e100_z => ?_)
      refine r_goto (t := 105) dX5_readAtom_101 (by decide) ?_
      refine r_istore2 dX5_readAtom_105 rfl ?_
      refine r_iload2 dX5_readAtom_106 ?_
      refine t_ifne (t := 115) dX5_readAtom_107 (by decide) (fun h107 => ?_) (fun h107 => False.elim (by omega))
      refine r_aloadR0 dX5_readAtom_115 ?_
      refine n_sipush dX5_readAtom_116 (by decide) (fun r116 e116 => ?_)
      refine r_aloadR0 dX5_readAtom_119 ?_
      refine m_getR (q := (ca (wdP B n p))) zf_RX5_37 rfl dX5_readAtom_120 hr.1 (zu_at.trans hv3) ?_
      refine k_getf (fun U hU => (ko.2.2.2.2.1 _ (Nat.lt_succ_of_le wd_le) U hU).2.2.1) zg_RX5_197 dX5_readAtom_123 ?_
      refine n_iadd dX5_readAtom_126 (by omega) (fun r126 e126 => ?_)
      refine q_callV1 zm_RX5_173 dX5_readAtom_127 hr.1 (by decide) rfl (Nat.le_of_ble_eq_true rfl) (Nat.le_of_ble_eq_true rfl) (Nat.le_of_ble_eq_true rfl) (Nat.le_of_ble_eq_true rfl) (Nat.le_of_ble_eq_true rfl) (s_X5_emit (u := u) G hr hu (by omega) (fun g127 o127 a127 b127 c127 => ?_))
      have t127 := tkR_of htk o127 (by decide) (by decide) (by decide) (by decide)
      have htp127 := tpR_of htp ht o127 (by decide)
      refine r_aloadR0 dX5_readAtom_130 ?_
      refine q_callV0 zm_RX5_73 dX5_readAtom_131 hr.1 (by decide) rfl (Nat.le_of_ble_eq_true rfl) (Nat.le_of_ble_eq_true rfl) (Nat.le_of_ble_eq_true rfl) (Nat.le_of_ble_eq_true rfl) (Nat.le_of_ble_eq_true rfl) (s_X5_next (p := teP B n p) G hr kw ko htp127 t127.2.1 (teP_le t127.1) t127.2.2.2.2.2.2 (fun v131 g131 o131 t131 => ?_))
      have t131 : tkR ca B n g131 v131 A (nxP B n p) := t131
      refine n_iconst dX5_readAtom_134 (by decide) (fun r134 e134 => ?_)
      refine m_zret dX5_readAtom_135 rfl (by omega) (Nat.le_of_ble_eq_true rfl) (Nat.le_of_ble_eq_true rfl) ?_
      exact hQ _ _ g131 (frM_tr (frM_su o127 (by decide) (by decide)) (frM_su o131 (by decide) (by decide))) (fun _ => ⟨e134, t131, okR_cg (okR_one a127 b127 c127 (by omega)) rfl (o131.2.1 8 (by decide) (by decide) (by decide)) (o131.2.2 9 (by decide))⟩) (fun h_z => absurd rfl h_z)
  have hba := ba_bd (B := B) (n := n) (s := p)
  have hv : a1P B n (if lm = 5 then 8 else 6) p = (baP B n p, p, []) := a1_bad h2 hf
  rw [hv] at hQ
  by_cases h3 : tkP B n p = 3
  · have hv3 := htk.2.2.2.2.2.1 h3
    by_cases h8 : fcP (wdP B n p) = 8
    · have n1 := f1_z.mpr h8
      refine r_aloadR0 dX5_readAtom_0 ?_
      refine m_getV (x := (f A 4)) zf_RX5_25 rfl dX5_readAtom_1 hr.1 (rfl) ?_
      refine n_bipush dX5_readAtom_4 (by decide) (fun r4 e4_z => ?_)
      refine t_icne (t := 42) dX5_readAtom_6 (by decide) (fun h6 => ?_) (fun h6 => False.elim (by omega))
      refine r_aloadR0 dX5_readAtom_42 ?_
      refine m_getV (x := (f A 4)) zf_RX5_25 rfl dX5_readAtom_43 hr.1 (rfl) ?_
      refine n_iconst dX5_readAtom_46 (by decide) (fun r46 e46 => ?_)
      refine t_icne (t := 64) dX5_readAtom_47 (by decide) (fun h47 => ?_) (fun h47 => False.elim (by omega))
      refine r_aloadR0 dX5_readAtom_64 ?_
      refine m_getV (x := (f A 4)) zf_RX5_25 rfl dX5_readAtom_65 hr.1 (rfl) ?_
      refine n_iconst dX5_readAtom_68 (by decide) (fun r68 e68 => ?_)
      refine t_icne (t := 104) dX5_readAtom_69 (by decide) (fun h69 => False.elim (by omega)) (fun h69 => ?_)
      refine r_aloadR0 dX5_readAtom_72 ?_
      refine m_getR (q := (ca (wdP B n p))) zf_RX5_37 rfl dX5_readAtom_73 hr.1 (zu_at.trans hv3) ?_
      refine k_getf (fun U hU => (ko.2.2.2.2.1 _ (Nat.lt_succ_of_le wd_le) U hU).2.2.1) zg_RX5_197 dX5_readAtom_76 ?_
      refine n_iconst dX5_readAtom_79 (by decide) (fun r79 e79 => ?_)
      refine t_iceq (t := 104) dX5_readAtom_80 (by decide) (fun h80 => ?_) (fun h80 => False.elim (by omega))
      refine n_iconst dX5_readAtom_104 (by decide) (fun r104 e104_z => ?_)
      refine r_istore2 dX5_readAtom_105 rfl ?_
      refine r_iload2 dX5_readAtom_106 ?_
      refine t_ifne (t := 115) dX5_readAtom_107 (by decide) (fun h107 => False.elim (by omega)) (fun h107 => ?_)
      refine r_aloadR0 dX5_readAtom_110 ?_
      refine q_callV0 zm_RX5_80 dX5_readAtom_111 hr.1 (by decide) rfl (Nat.le_of_ble_eq_true rfl) (Nat.le_of_ble_eq_true rfl) (Nat.le_of_ble_eq_true rfl) (Nat.le_of_ble_eq_true rfl) (Nat.le_of_ble_eq_true rfl) (s_X5_refuseToken G hr htk (fun r111 g111 e111_z o111 l111 => ?_))
      refine m_zret dX5_readAtom_114 rfl (by omega) (Nat.le_of_ble_eq_true rfl) (Nat.le_of_ble_eq_true rfl) ?_
      exact hQ _ _ g111 (frM_su o111 (by decide) (by decide)) (fun h_z => absurd h_z hba.1) (fun _ => ⟨e111_z, l111⟩)
    · have n1 : (fcI (wdP B n p)).toInt ≠ -1 := fun h_z => h8 (f1_z.mp h_z)
      have h5l : lm ≠ 5 := fun h_z => hf ⟨h3, by rw [if_pos h_z]; omega⟩
      rw [if_neg h5l] at hol
      have hna : wdP B n p = 2 ∨ wdP B n p = 15 := Decidable.byContradiction (fun h_z => hf ⟨h3, by rw [if_neg h5l]; exact (f3_z (by omega)).mpr h_z⟩)
      refine r_aloadR0 dX5_readAtom_0 ?_
      refine m_getV (x := (f A 4)) zf_RX5_25 rfl dX5_readAtom_1 hr.1 (rfl) ?_
      refine n_bipush dX5_readAtom_4 (by decide) (fun r4 e4_z => ?_)
      refine t_icne (t := 42) dX5_readAtom_6 (by decide) (fun h6 => ?_) (fun h6 => False.elim (by omega))
      refine r_aloadR0 dX5_readAtom_42 ?_
      refine m_getV (x := (f A 4)) zf_RX5_25 rfl dX5_readAtom_43 hr.1 (rfl) ?_
      refine n_iconst dX5_readAtom_46 (by decide) (fun r46 e46 => ?_)
      refine t_icne (t := 64) dX5_readAtom_47 (by decide) (fun h47 => ?_) (fun h47 => False.elim (by omega))
      refine r_aloadR0 dX5_readAtom_64 ?_
      refine m_getV (x := (f A 4)) zf_RX5_25 rfl dX5_readAtom_65 hr.1 (rfl) ?_
      refine n_iconst dX5_readAtom_68 (by decide) (fun r68 e68 => ?_)
      refine t_icne (t := 104) dX5_readAtom_69 (by decide) (fun h69 => False.elim (by omega)) (fun h69 => ?_)
      refine r_aloadR0 dX5_readAtom_72 ?_
      refine m_getR (q := (ca (wdP B n p))) zf_RX5_37 rfl dX5_readAtom_73 hr.1 (zu_at.trans hv3) ?_
      refine k_getf (fun U hU => (ko.2.2.2.2.1 _ (Nat.lt_succ_of_le wd_le) U hU).2.2.1) zg_RX5_197 dX5_readAtom_76 ?_
      refine n_iconst dX5_readAtom_79 (by decide) (fun r79 e79 => ?_)
      refine t_iceq (t := 104) dX5_readAtom_80 (by decide) (fun h80 => False.elim (by omega)) (fun h80 => ?_)
      refine r_aloadR0 dX5_readAtom_83 ?_
      refine m_getV (x := (f A 10)) zf_RX5_54 rfl dX5_readAtom_84 hr.1 (rfl) ?_
      refine t_ifne (t := 100) dX5_readAtom_87 (by decide) (fun h87 => False.elim (by omega)) (fun h87 => ?_)
      refine r_aloadR0 dX5_readAtom_90 ?_
      refine m_getR (q := (ca (wdP B n p))) zf_RX5_37 rfl dX5_readAtom_91 hr.1 (zu_at.trans hv3) ?_
      refine k_callV0 zm_RX5_200 dX5_readAtom_94 (fun U hU => (ko.2.2.2.2.1 _ (Nat.lt_succ_of_le wd_le) U hU).1) (Nat.le_of_ble_eq_true rfl) (Nat.le_of_ble_eq_true rfl) (Nat.le_of_ble_eq_true rfl) (Nat.le_of_ble_eq_true rfl) (Nat.le_of_ble_eq_true rfl) (s_X10_isOfLikesAlone (i := wdP B n p) G kw ko (by omega) (fun r94 e94_z => ?_))
      refine t_ifne (t := 104) dX5_readAtom_97 (by decide) (fun h97 => ?_) (fun h97 => False.elim (e94_z.elim (fun h_z => by omega) (fun h_z => h_z.2 hna)))
      refine n_iconst dX5_readAtom_104 (by decide) (fun r104 e104_z => ?_)
      refine r_istore2 dX5_readAtom_105 rfl ?_
      refine r_iload2 dX5_readAtom_106 ?_
      refine t_ifne (t := 115) dX5_readAtom_107 (by decide) (fun h107 => False.elim (by omega)) (fun h107 => ?_)
      refine r_aloadR0 dX5_readAtom_110 ?_
      refine q_callV0 zm_RX5_80 dX5_readAtom_111 hr.1 (by decide) rfl (Nat.le_of_ble_eq_true rfl) (Nat.le_of_ble_eq_true rfl) (Nat.le_of_ble_eq_true rfl) (Nat.le_of_ble_eq_true rfl) (Nat.le_of_ble_eq_true rfl) (s_X5_refuseToken G hr htk (fun r111 g111 e111_z o111 l111 => ?_))
      refine m_zret dX5_readAtom_114 rfl (by omega) (Nat.le_of_ble_eq_true rfl) (Nat.le_of_ble_eq_true rfl) ?_
      exact hQ _ _ g111 (frM_su o111 (by decide) (by decide)) (fun h_z => absurd h_z hba.1) (fun _ => ⟨e111_z, l111⟩)
  refine r_aloadR0 dX5_readAtom_0 ?_
  refine m_getV (x := (f A 4)) zf_RX5_25 rfl dX5_readAtom_1 hr.1 (rfl) ?_
  refine n_bipush dX5_readAtom_4 (by decide) (fun r4 e4_z => ?_)
  refine t_icne (t := 42) dX5_readAtom_6 (by decide) (fun h6 => ?_) (fun h6 => False.elim (by omega))
  refine r_aloadR0 dX5_readAtom_42 ?_
  refine m_getV (x := (f A 4)) zf_RX5_25 rfl dX5_readAtom_43 hr.1 (rfl) ?_
  refine n_iconst dX5_readAtom_46 (by decide) (fun r46 e46 => ?_)
  refine t_icne (t := 64) dX5_readAtom_47 (by decide) (fun h47 => ?_) (fun h47 => False.elim (by omega))
  refine r_aloadR0 dX5_readAtom_64 ?_
  refine m_getV (x := (f A 4)) zf_RX5_25 rfl dX5_readAtom_65 hr.1 (rfl) ?_
  refine n_iconst dX5_readAtom_68 (by decide) (fun r68 e68 => ?_)
  refine t_icne (t := 104) dX5_readAtom_69 (by decide) (fun h69 => ?_) (fun h69 => False.elim (by omega))
  refine n_iconst dX5_readAtom_104 (by decide) (fun r104 e104_z => ?_)
  refine r_istore2 dX5_readAtom_105 rfl ?_
  refine r_iload2 dX5_readAtom_106 ?_
  refine t_ifne (t := 115) dX5_readAtom_107 (by decide) (fun h107 => False.elim (by omega)) (fun h107 => ?_)
  refine r_aloadR0 dX5_readAtom_110 ?_
  refine q_callV0 zm_RX5_80 dX5_readAtom_111 hr.1 (by decide) rfl (Nat.le_of_ble_eq_true rfl) (Nat.le_of_ble_eq_true rfl) (Nat.le_of_ble_eq_true rfl) (Nat.le_of_ble_eq_true rfl) (Nat.le_of_ble_eq_true rfl) (s_X5_refuseToken G hr htk (fun r111 g111 e111_z o111 l111 => ?_))
  refine m_zret dX5_readAtom_114 rfl (by omega) (Nat.le_of_ble_eq_true rfl) (Nat.le_of_ble_eq_true rfl) ?_
  exact hQ _ _ g111 (frM_su o111 (by decide) (by decide)) (fun h_z => absurd h_z hba.1) (fun _ => ⟨e111_z, l111⟩)
set_option maxHeartbeats 4000000 in
set_option maxRecDepth 100000 in
theorem s_X5_readTerm_2 {g : zGT} {w : zW} {f : Nat → Nat → Int32} {j : Nat → Nat → Int64} {A tq nq : Nat} {v : Option Nat} {B : Nat → Nat} {n : Nat} {ca wa wv : Nat → Nat} {kq ta sm gq gv : Nat} {p lm u : Nat} {x : Int32} {Q : Option Value → zW → Prop} {QX : String → zW → Prop} (G : zGok g) (hr : shRd w A tq nq) (kw : kWd g wa wv kq) (ko : kWo g ca wa wv ta sm gq gv) (htp : tpR B n f A tq) (htk : tkR ca B n f v A p) (hx : x.toInt = 4) (hol : (f A 10).toInt = if lm = 5 then 1 else 0) (hu : (f A 9).toInt = (u : Nat)) (hup : u ≤ p) (hQ : ∀ (b : Int32) v2 f2_z, frM A [8] [2, 3, 4, 5, 9, 11, 12] f f2_z → ((chP B n (atP B n (if lm = 5 then 8 else 6) 2) (opT B n) p).1 = 0 → b.toInt = 1 ∧ tkR ca B n f2_z v2 A (chP B n (atP B n (if lm = 5 then 8 else 6) 2) (opT B n) p).2.1 ∧ okR f f2_z A u (chP B n (atP B n (if lm = 5 then 8 else 6) 2) (opT B n) p).2.2) → ((chP B n (atP B n (if lm = 5 then 8 else 6) 2) (opT B n) p).1 ≠ 0 → b.toInt = 0 ∧ flR f2_z A (chP B n (atP B n (if lm = 5 then 8 else 6) 2) (opT B n) p).1 (chP B n (atP B n (if lm = 5 then 8 else 6) 2) (opT B n) p).2.1) → Q (some (.int b)) (zM (wW w A v2) f2_z j)) : zC g 19 yX5_readTerm cX5_readTerm 3 (some .boolean) [.ref A, .int x] (zM (wW w A v) f j) (0, 0) Q QX := by
  refine zC_of G (by decide +kernel) (Nat.le_of_ble_eq_true rfl) ?_
  have ht := hr.2.2.2.2.2.2
  have h4 := htk.2.2.2.1
  have hpn := htk.1
  have h900 := htp.2.1
  have hgd : ∀ s, s ≤ n → gdP n false (if lm = 5 then 8 else 6) (1 + 2 * 2) s ((atP B n (if lm = 5 then 8 else 6) 2) s) := gd_at (by split <;> decide) 2
  have lp : ∀ (mz : Nat) (uu : Int32) (i : Nat) (k : Nat) (ps : Nat) (c : List Nat) (f2_z : Nat → Nat → Int32) (vv : Option Nat), uu.toInt = (i : Nat) → frM A [8] [2, 3, 4, 5, 9, 11, 12] f f2_z → tkR ca B n f2_z vv A ps → okR f f2_z A u c → p + i < ps → ps ≤ n → c.length + p ≤ ps → n ≤ k + ps → lpP B n (atP B n (if lm = 5 then 8 else 6) 2) (opT B n) k (0, ps, c) = chP B n (atP B n (if lm = 5 then 8 else 6) 2) (opT B n) p → k < mz → zR (zV g 19 yX5_readTerm 3 (some .boolean) (0, 0) Q QX) cX5_readTerm yX5_readTerm.cls 12 [some (.ref A), some (.int x), some (.int uu)] [] (zM (wW w A vv) f2_z j) (0, 0) := by
    intro mz
    induction mz with
    | zero =>
      intro uu i k ps c f2_z vv hui ofr htk2 hok hpi hps hcl hnk hR hmz
      exact absurd hmz (Nat.not_lt_zero _)
    | succ mz ih =>
      intro uu i k ps c f2_z vv hui ofr htk2 hok hpi hps hcl hnk hR hmz
      have htp2 := tpR_of htp ht ofr (by decide)
      have h1 := htp2.1
      have htk4 := htk2.2.2.2.1
      have hi9 : i < n := by omega
      by_cases hc_z : tkP B n ps = 42
      · have hop : (opT B n) ps = 2005 := if_pos hc_z
        have hop0 : (opT B n) ps ≠ 0 := by rw [hop]; decide
        have hln := tk_lt (B := B) (n := n) (s := ps) (by rw [hc_z]; decide)
        obtain ⟨k2_z, rfl⟩ : ∃ k2_z, k = k2_z + 1 := ⟨k - 1, by omega⟩
        have hnx := nxP_gt (B := B) hln
        have gq := hgd _ hnx.2
        by_cases hq : ((atP B n (if lm = 5 then 8 else 6) 2) (nxP B n ps)).1 = 0
        · obtain ⟨y1, y2, y3, y4⟩ := gq.1 hq
          refine r_iload2 dX5_readTerm_12 ?_
          refine r_aloadR0 dX5_readTerm_13 ?_
          refine m_getV (x := (f2_z A 1)) zf_RX5_15 rfl dX5_readTerm_14 hr.1 (rfl) ?_
          refine t_icge (t := 56) dX5_readTerm_17 (by decide) (fun h17 => False.elim (by omega)) (fun h17 => ?_)
          refine r_aloadR0 dX5_readTerm_20 ?_
          refine m_getV (x := (f2_z A 4)) zf_RX5_25 rfl dX5_readTerm_21 hr.1 (rfl) ?_
          refine n_bipush dX5_readTerm_24 (by decide) (fun r24 e24_z => ?_)
          refine t_icne (t := 56) dX5_readTerm_26 (by decide) (fun h26 => False.elim (by omega)) (fun h26 => ?_)
          refine r_aloadR0 dX5_readTerm_29 ?_
          refine q_callV0 zm_RX5_73 dX5_readTerm_30 hr.1 (by decide) rfl (Nat.le_of_ble_eq_true rfl) (Nat.le_of_ble_eq_true rfl) (Nat.le_of_ble_eq_true rfl) (Nat.le_of_ble_eq_true rfl) (Nat.le_of_ble_eq_true rfl) (s_X5_next (p := teP B n ps) G hr kw ko htp2 htk2.2.1 (teP_le htk2.1) htk2.2.2.2.2.2.2 (fun v30 g30 o30 t30 => ?_))
          have t30 : tkR ca B n g30 v30 A (nxP B n ps) := t30
          have htpn := tpR_of htp2 ht o30 (by decide)
          have wn : g30 (A + 8) = f2_z (A + 8) := o30.2.1 8 (by decide) (by decide) (by decide)
          refine r_aloadR0 dX5_readTerm_33 ?_
          refine r_iload1 dX5_readTerm_34 ?_
          refine q_callV1 zm_RX5_194 dX5_readTerm_35 hr.1 (by decide) rfl (Nat.le_of_ble_eq_true rfl) (Nat.le_of_ble_eq_true rfl) (Nat.le_of_ble_eq_true rfl) (Nat.le_of_ble_eq_true rfl) (Nat.le_of_ble_eq_true rfl) (s_X5_readAtom_2 (lm := lm) (u := u + c.length) G hr kw ko htpn t30 hx (by rw [o30.2.2 10 (by decide), ofr.2.2 10 (by decide)]; exact hol) (by rw [o30.2.2 9 (by decide)]; exact hok.1) (by omega) (fun rs vs gs os as bs => ?_))
          have as2 : ((atP B n (if lm = 5 then 8 else 6) 2) (nxP B n ps)).1 = 0 → rs.toInt = 1 ∧ tkR ca B n gs vs A ((atP B n (if lm = 5 then 8 else 6) 2) (nxP B n ps)).2.1 ∧ okR g30 gs A (u + c.length) ((atP B n (if lm = 5 then 8 else 6) 2) (nxP B n ps)).2.2 := as
          have bs2 : ((atP B n (if lm = 5 then 8 else 6) 2) (nxP B n ps)).1 ≠ 0 → rs.toInt = 0 ∧ flR gs A ((atP B n (if lm = 5 then 8 else 6) 2) (nxP B n ps)).1 ((atP B n (if lm = 5 then 8 else 6) 2) (nxP B n ps)).2.1 := bs
          have ofs : frM A [8] [2, 3, 4, 5, 9, 11, 12] f gs := frM_tr ofr (frM_tr (frM_su o30 (by decide) (by decide)) os)
          obtain ⟨cs, ts, ks⟩ := as2 hq
          refine t_ifne (t := 43) dX5_readTerm_38 (by decide) (fun h38 => ?_) (fun h38 => False.elim (by omega))
          refine r_aloadR0 dX5_readTerm_43 ?_
          refine n_sipush dX5_readTerm_44 (by decide) (fun r44 e44 => ?_)
          refine q_callV1 zm_RX5_173 dX5_readTerm_47 hr.1 (by decide) rfl (Nat.le_of_ble_eq_true rfl) (Nat.le_of_ble_eq_true rfl) (Nat.le_of_ble_eq_true rfl) (Nat.le_of_ble_eq_true rfl) (Nat.le_of_ble_eq_true rfl) (s_X5_emit (u := u + c.length + ((atP B n (if lm = 5 then 8 else 6) 2) (nxP B n ps)).2.2.length) G hr ks.1 (by omega) (fun g47 o47 a47 b47 c47 => ?_))
          refine n_iinc2 dX5_readTerm_50 (by decide) rfl (by omega) (fun r50 e50 => ?_)
          refine r_goto (t := 12) dX5_readTerm_53 (by decide) ?_
          refine ih _ (i + 1) k2_z ((atP B n (if lm = 5 then 8 else 6) 2) (nxP B n ps)).2.1 (c ++ ((atP B n (if lm = 5 then 8 else 6) 2) (nxP B n ps)).2.2 ++ [(opT B n) ps]) g47 _ (by omega) (frM_tr ofs (frM_su o47 (by decide) (by decide))) (tkR_of ts o47 (by decide) (by decide) (by decide) (by decide)) (okR_ap (okR_ap hok (okR_cg ks wn rfl rfl)) ?_) (by omega) y2 ?_ (by omega) ?_ (by omega)
          · rw [List.length_append, ← Nat.add_assoc, hop]
            exact okR_one a47 b47 c47 (by omega)
          · rw [List.length_append, List.length_append, List.length_singleton]
            omega
          · exact (lpP_on (r := (0, ps, c)) rfl hop0 hq).symm.trans hR
        · have hv : ((atP B n (if lm = 5 then 8 else 6) 2) (nxP B n ps)) = chP B n (atP B n (if lm = 5 then 8 else 6) 2) (opT B n) p := (lpP_sub (k := k2_z) (r := (0, ps, c)) rfl hop0 hq).symm.trans hR
          refine r_iload2 dX5_readTerm_12 ?_
          refine r_aloadR0 dX5_readTerm_13 ?_
          refine m_getV (x := (f2_z A 1)) zf_RX5_15 rfl dX5_readTerm_14 hr.1 (rfl) ?_
          refine t_icge (t := 56) dX5_readTerm_17 (by decide) (fun h17 => False.elim (by omega)) (fun h17 => ?_)
          refine r_aloadR0 dX5_readTerm_20 ?_
          refine m_getV (x := (f2_z A 4)) zf_RX5_25 rfl dX5_readTerm_21 hr.1 (rfl) ?_
          refine n_bipush dX5_readTerm_24 (by decide) (fun r24 e24_z => ?_)
          refine t_icne (t := 56) dX5_readTerm_26 (by decide) (fun h26 => False.elim (by omega)) (fun h26 => ?_)
          refine r_aloadR0 dX5_readTerm_29 ?_
          refine q_callV0 zm_RX5_73 dX5_readTerm_30 hr.1 (by decide) rfl (Nat.le_of_ble_eq_true rfl) (Nat.le_of_ble_eq_true rfl) (Nat.le_of_ble_eq_true rfl) (Nat.le_of_ble_eq_true rfl) (Nat.le_of_ble_eq_true rfl) (s_X5_next (p := teP B n ps) G hr kw ko htp2 htk2.2.1 (teP_le htk2.1) htk2.2.2.2.2.2.2 (fun v30 g30 o30 t30 => ?_))
          have t30 : tkR ca B n g30 v30 A (nxP B n ps) := t30
          have htpn := tpR_of htp2 ht o30 (by decide)
          have wn : g30 (A + 8) = f2_z (A + 8) := o30.2.1 8 (by decide) (by decide) (by decide)
          refine r_aloadR0 dX5_readTerm_33 ?_
          refine r_iload1 dX5_readTerm_34 ?_
          refine q_callV1 zm_RX5_194 dX5_readTerm_35 hr.1 (by decide) rfl (Nat.le_of_ble_eq_true rfl) (Nat.le_of_ble_eq_true rfl) (Nat.le_of_ble_eq_true rfl) (Nat.le_of_ble_eq_true rfl) (Nat.le_of_ble_eq_true rfl) (s_X5_readAtom_2 (lm := lm) (u := u + c.length) G hr kw ko htpn t30 hx (by rw [o30.2.2 10 (by decide), ofr.2.2 10 (by decide)]; exact hol) (by rw [o30.2.2 9 (by decide)]; exact hok.1) (by omega) (fun rs vs gs os as bs => ?_))
          have as2 : ((atP B n (if lm = 5 then 8 else 6) 2) (nxP B n ps)).1 = 0 → rs.toInt = 1 ∧ tkR ca B n gs vs A ((atP B n (if lm = 5 then 8 else 6) 2) (nxP B n ps)).2.1 ∧ okR g30 gs A (u + c.length) ((atP B n (if lm = 5 then 8 else 6) 2) (nxP B n ps)).2.2 := as
          have bs2 : ((atP B n (if lm = 5 then 8 else 6) 2) (nxP B n ps)).1 ≠ 0 → rs.toInt = 0 ∧ flR gs A ((atP B n (if lm = 5 then 8 else 6) 2) (nxP B n ps)).1 ((atP B n (if lm = 5 then 8 else 6) 2) (nxP B n ps)).2.1 := bs
          have ofs : frM A [8] [2, 3, 4, 5, 9, 11, 12] f gs := frM_tr ofr (frM_tr (frM_su o30 (by decide) (by decide)) os)
          obtain ⟨cs, ls⟩ := bs2 hq
          refine t_ifne (t := 43) dX5_readTerm_38 (by decide) (fun h38 => False.elim (by omega)) (fun h38 => ?_)
          refine n_iconst dX5_readTerm_41 (by decide) (fun r41 e41_z => ?_)
          refine m_zret dX5_readTerm_42 rfl (by omega) (Nat.le_of_ble_eq_true rfl) (Nat.le_of_ble_eq_true rfl) ?_
          rw [← hv] at hQ
          exact hQ _ _ gs ofs (fun h_z => absurd h_z hq) (fun _ => ⟨e41_z, ls⟩)
      have hop : (opT B n) ps = 0 := if_neg hc_z
      have hv := (lpP_end (B := B) (n := n) (k := k) (sub := (atP B n (if lm = 5 then 8 else 6) 2)) (r := (0, ps, c)) hop).symm.trans hR
      refine r_iload2 dX5_readTerm_12 ?_
      refine r_aloadR0 dX5_readTerm_13 ?_
      refine m_getV (x := (f2_z A 1)) zf_RX5_15 rfl dX5_readTerm_14 hr.1 (rfl) ?_
      refine t_icge (t := 56) dX5_readTerm_17 (by decide) (fun h17 => False.elim (by omega)) (fun h17 => ?_)
      refine r_aloadR0 dX5_readTerm_20 ?_
      refine m_getV (x := (f2_z A 4)) zf_RX5_25 rfl dX5_readTerm_21 hr.1 (rfl) ?_
      refine n_bipush dX5_readTerm_24 (by decide) (fun r24 e24_z => ?_)
      refine t_icne (t := 56) dX5_readTerm_26 (by decide) (fun h26 => ?_) (fun h26 => False.elim (by omega))
      refine n_iconst dX5_readTerm_56 (by decide) (fun r56 e56 => ?_)
      refine m_zret dX5_readTerm_57 rfl (by omega) (Nat.le_of_ble_eq_true rfl) (Nat.le_of_ble_eq_true rfl) ?_
      rw [← hv] at hQ
      exact hQ _ _ f2_z ofr (fun _ => ⟨e56, htk2, hok⟩) (fun h_z => absurd rfl h_z)
  have gp := hgd p hpn
  by_cases hq : ((atP B n (if lm = 5 then 8 else 6) 2) p).1 = 0
  · obtain ⟨y1, y2, y3, y4⟩ := gp.1 hq
    have hz : ((atP B n (if lm = 5 then 8 else 6) 2) p) = (0, ((atP B n (if lm = 5 then 8 else 6) 2) p).2.1, ((atP B n (if lm = 5 then 8 else 6) 2) p).2.2) := Prod.ext hq rfl
    refine r_aloadR0 dX5_readTerm_0 ?_
    refine r_iload1 dX5_readTerm_1 ?_
    refine q_callV1 zm_RX5_194 dX5_readTerm_2 hr.1 (by decide) rfl (Nat.le_of_ble_eq_true rfl) (Nat.le_of_ble_eq_true rfl) (Nat.le_of_ble_eq_true rfl) (Nat.le_of_ble_eq_true rfl) (Nat.le_of_ble_eq_true rfl) (s_X5_readAtom_2 G hr kw ko htp htk hx hol hu hup (fun r2 v2 g2 o2 a2 b2 => ?_))
    have a2b : ((atP B n (if lm = 5 then 8 else 6) 2) p).1 = 0 → r2.toInt = 1 ∧ tkR ca B n g2 v2 A ((atP B n (if lm = 5 then 8 else 6) 2) p).2.1 ∧ okR f g2 A u ((atP B n (if lm = 5 then 8 else 6) 2) p).2.2 := a2
    have b2b : ((atP B n (if lm = 5 then 8 else 6) 2) p).1 ≠ 0 → r2.toInt = 0 ∧ flR g2 A ((atP B n (if lm = 5 then 8 else 6) 2) p).1 ((atP B n (if lm = 5 then 8 else 6) 2) p).2.1 := b2
    obtain ⟨c2_z, t2, k2_z⟩ := a2b hq
    refine t_ifne (t := 10) dX5_readTerm_5 (by decide) (fun h5 => ?_) (fun h5 => False.elim (by omega))
    refine n_iconst dX5_readTerm_10 (by decide) (fun r10 e10_z => ?_)
    refine r_istore2 dX5_readTerm_11 rfl ?_
    exact lp (n + 1) _ 0 n ((atP B n (if lm = 5 then 8 else 6) 2) p).2.1 ((atP B n (if lm = 5 then 8 else 6) 2) p).2.2 g2 _ (by omega) o2 t2 k2_z (by omega) y2 y3 (by omega) (by rw [← hz]; rfl) (Nat.lt_succ_self n)
  · have hv : chP B n (atP B n (if lm = 5 then 8 else 6) 2) (opT B n) p = ((atP B n (if lm = 5 then 8 else 6) 2) p) := lpP_bad hq
    rw [hv] at hQ
    refine r_aloadR0 dX5_readTerm_0 ?_
    refine r_iload1 dX5_readTerm_1 ?_
    refine q_callV1 zm_RX5_194 dX5_readTerm_2 hr.1 (by decide) rfl (Nat.le_of_ble_eq_true rfl) (Nat.le_of_ble_eq_true rfl) (Nat.le_of_ble_eq_true rfl) (Nat.le_of_ble_eq_true rfl) (Nat.le_of_ble_eq_true rfl) (s_X5_readAtom_2 G hr kw ko htp htk hx hol hu hup (fun r2 v2 g2 o2 a2 b2 => ?_))
    have a2b : ((atP B n (if lm = 5 then 8 else 6) 2) p).1 = 0 → r2.toInt = 1 ∧ tkR ca B n g2 v2 A ((atP B n (if lm = 5 then 8 else 6) 2) p).2.1 ∧ okR f g2 A u ((atP B n (if lm = 5 then 8 else 6) 2) p).2.2 := a2
    have b2b : ((atP B n (if lm = 5 then 8 else 6) 2) p).1 ≠ 0 → r2.toInt = 0 ∧ flR g2 A ((atP B n (if lm = 5 then 8 else 6) 2) p).1 ((atP B n (if lm = 5 then 8 else 6) 2) p).2.1 := b2
    obtain ⟨c2_z, l2⟩ := b2b hq
    refine t_ifne (t := 10) dX5_readTerm_5 (by decide) (fun h5 => False.elim (by omega)) (fun h5 => ?_)
    refine n_iconst dX5_readTerm_8 (by decide) (fun r8 e8 => ?_)
    refine m_zret dX5_readTerm_9 rfl (by omega) (Nat.le_of_ble_eq_true rfl) (Nat.le_of_ble_eq_true rfl) ?_
    exact hQ _ _ g2 o2 (fun h_z => absurd h_z hq) (fun _ => ⟨e8, l2⟩)
set_option maxHeartbeats 4000000 in
set_option maxRecDepth 100000 in
theorem s_X5_readSum_2 {g : zGT} {w : zW} {f : Nat → Nat → Int32} {j : Nat → Nat → Int64} {A tq nq : Nat} {v : Option Nat} {B : Nat → Nat} {n : Nat} {ca wa wv : Nat → Nat} {kq ta sm gq gv : Nat} {p lm u : Nat} {x : Int32} {Q : Option Value → zW → Prop} {QX : String → zW → Prop} (G : zGok g) (hr : shRd w A tq nq) (kw : kWd g wa wv kq) (ko : kWo g ca wa wv ta sm gq gv) (htp : tpR B n f A tq) (htk : tkR ca B n f v A p) (hx : x.toInt = 4) (hol : (f A 10).toInt = if lm = 5 then 1 else 0) (hu : (f A 9).toInt = (u : Nat)) (hup : u ≤ p) (hQ : ∀ (b : Int32) v2 f2_z, frM A [8] [2, 3, 4, 5, 9, 11, 12] f f2_z → ((chP B n (chP B n (atP B n (if lm = 5 then 8 else 6) 2) (opT B n)) (opS B n) p).1 = 0 → b.toInt = 1 ∧ tkR ca B n f2_z v2 A (chP B n (chP B n (atP B n (if lm = 5 then 8 else 6) 2) (opT B n)) (opS B n) p).2.1 ∧ okR f f2_z A u (chP B n (chP B n (atP B n (if lm = 5 then 8 else 6) 2) (opT B n)) (opS B n) p).2.2) → ((chP B n (chP B n (atP B n (if lm = 5 then 8 else 6) 2) (opT B n)) (opS B n) p).1 ≠ 0 → b.toInt = 0 ∧ flR f2_z A (chP B n (chP B n (atP B n (if lm = 5 then 8 else 6) 2) (opT B n)) (opS B n) p).1 (chP B n (chP B n (atP B n (if lm = 5 then 8 else 6) 2) (opT B n)) (opS B n) p).2.1) → Q (some (.int b)) (zM (wW w A v2) f2_z j)) : zC g 20 yX5_readSum cX5_readSum 4 (some .boolean) [.ref A, .int x] (zM (wW w A v) f j) (0, 0) Q QX := by
  refine zC_of G (by decide +kernel) (Nat.le_of_ble_eq_true rfl) ?_
  have ht := hr.2.2.2.2.2.2
  have h4 := htk.2.2.2.1
  have hpn := htk.1
  have h900 := htp.2.1
  have hgd : ∀ s, s ≤ n → gdP n false (if lm = 5 then 8 else 6) (1 + 2 * 2 + 1) s ((chP B n (atP B n (if lm = 5 then 8 else 6) 2) (opT B n)) s) := fun s hs9 => gd_ch (gd_at (by split <;> decide) 2) hop_T hs9
  have lp : ∀ (mz : Nat) (uu : Int32) (i : Nat) (k : Nat) (ps : Nat) (c : List Nat) (f2_z : Nat → Nat → Int32) (vv : Option Nat) (v3_ : Option Value), uu.toInt = (i : Nat) → frM A [8] [2, 3, 4, 5, 9, 11, 12] f f2_z → tkR ca B n f2_z vv A ps → okR f f2_z A u c → p + i < ps → ps ≤ n → c.length + p ≤ ps → n ≤ k + ps → lpP B n (chP B n (atP B n (if lm = 5 then 8 else 6) 2) (opT B n)) (opS B n) k (0, ps, c) = chP B n (chP B n (atP B n (if lm = 5 then 8 else 6) 2) (opT B n)) (opS B n) p → k < mz → zR (zV g 20 yX5_readSum 4 (some .boolean) (0, 0) Q QX) cX5_readSum yX5_readSum.cls 12 [some (.ref A), some (.int x), some (.int uu), v3_] [] (zM (wW w A vv) f2_z j) (0, 0) := by
    intro mz
    induction mz with
    | zero =>
      intro uu i k ps c f2_z vv v3_ hui ofr htk2 hok hpi hps hcl hnk hR hmz
      exact absurd hmz (Nat.not_lt_zero _)
    | succ mz ih =>
      intro uu i k ps c f2_z vv v3_ hui ofr htk2 hok hpi hps hcl hnk hR hmz
      have htp2 := tpR_of htp ht ofr (by decide)
      have h1 := htp2.1
      have htk4 := htk2.2.2.2.1
      have hi9 : i < n := by omega
      by_cases hc_z : tkP B n ps = 43
      · have hop : (opS B n) ps = 2003 := if_pos hc_z
        have hop0 : (opS B n) ps ≠ 0 := by rw [hop]; decide
        have hln := tk_lt (B := B) (n := n) (s := ps) (by rw [hc_z]; decide)
        obtain ⟨k2_z, rfl⟩ : ∃ k2_z, k = k2_z + 1 := ⟨k - 1, by omega⟩
        have hnx := nxP_gt (B := B) hln
        have gq := hgd _ hnx.2
        by_cases hq : ((chP B n (atP B n (if lm = 5 then 8 else 6) 2) (opT B n)) (nxP B n ps)).1 = 0
        · obtain ⟨y1, y2, y3, y4⟩ := gq.1 hq
          refine r_iload2 dX5_readSum_12 ?_
          refine r_aloadR0 dX5_readSum_13 ?_
          refine m_getV (x := (f2_z A 1)) zf_RX5_15 rfl dX5_readSum_14 hr.1 (rfl) ?_
          refine t_icge (t := 82) dX5_readSum_17 (by decide) (fun h17 => False.elim (by omega)) (fun h17 => ?_)
          refine r_aloadR0 dX5_readSum_20 ?_
          refine m_getV (x := (f2_z A 4)) zf_RX5_25 rfl dX5_readSum_21 hr.1 (rfl) ?_
          refine n_bipush dX5_readSum_24 (by decide) (fun r24 e24_z => ?_)
          refine t_iceq (t := 38) dX5_readSum_26 (by decide) (fun h26 => ?_) (fun h26 => False.elim (by omega))
          refine r_aloadR0 dX5_readSum_38 ?_
          refine m_getV (x := (f2_z A 4)) zf_RX5_25 rfl dX5_readSum_39 hr.1 (rfl) ?_
          refine n_bipush dX5_readSum_42 (by decide) (fun r42 e42_z => ?_)
          refine t_icne (t := 53) dX5_readSum_44 (by decide) (fun h44 => False.elim (by omega)) (fun h44 => ?_)
          refine n_sipush dX5_readSum_47 (by decide) (fun r47 e47 => ?_)
          refine r_goto (t := 56) dX5_readSum_50 (by decide) ?_
          refine r_istore3 dX5_readSum_56 rfl ?_
          refine r_aloadR0 dX5_readSum_57 ?_
          refine q_callV0 zm_RX5_73 dX5_readSum_58 hr.1 (by decide) rfl (Nat.le_of_ble_eq_true rfl) (Nat.le_of_ble_eq_true rfl) (Nat.le_of_ble_eq_true rfl) (Nat.le_of_ble_eq_true rfl) (Nat.le_of_ble_eq_true rfl) (s_X5_next (p := teP B n ps) G hr kw ko htp2 htk2.2.1 (teP_le htk2.1) htk2.2.2.2.2.2.2 (fun v58 g58 o58 t58 => ?_))
          have t58 : tkR ca B n g58 v58 A (nxP B n ps) := t58
          have htpn := tpR_of htp2 ht o58 (by decide)
          have wn : g58 (A + 8) = f2_z (A + 8) := o58.2.1 8 (by decide) (by decide) (by decide)
          refine r_aloadR0 dX5_readSum_61 ?_
          refine r_iload1 dX5_readSum_62 ?_
          refine q_callV1 zm_RX5_191 dX5_readSum_63 hr.1 (by decide) rfl (Nat.le_of_ble_eq_true rfl) (Nat.le_of_ble_eq_true rfl) (Nat.le_of_ble_eq_true rfl) (Nat.le_of_ble_eq_true rfl) (Nat.le_of_ble_eq_true rfl) (s_X5_readTerm_2 (lm := lm) (u := u + c.length) G hr kw ko htpn t58 hx (by rw [o58.2.2 10 (by decide), ofr.2.2 10 (by decide)]; exact hol) (by rw [o58.2.2 9 (by decide)]; exact hok.1) (by omega) (fun rs vs gs os as bs => ?_))
          have as2 : ((chP B n (atP B n (if lm = 5 then 8 else 6) 2) (opT B n)) (nxP B n ps)).1 = 0 → rs.toInt = 1 ∧ tkR ca B n gs vs A ((chP B n (atP B n (if lm = 5 then 8 else 6) 2) (opT B n)) (nxP B n ps)).2.1 ∧ okR g58 gs A (u + c.length) ((chP B n (atP B n (if lm = 5 then 8 else 6) 2) (opT B n)) (nxP B n ps)).2.2 := as
          have bs2 : ((chP B n (atP B n (if lm = 5 then 8 else 6) 2) (opT B n)) (nxP B n ps)).1 ≠ 0 → rs.toInt = 0 ∧ flR gs A ((chP B n (atP B n (if lm = 5 then 8 else 6) 2) (opT B n)) (nxP B n ps)).1 ((chP B n (atP B n (if lm = 5 then 8 else 6) 2) (opT B n)) (nxP B n ps)).2.1 := bs
          have ofs : frM A [8] [2, 3, 4, 5, 9, 11, 12] f gs := frM_tr ofr (frM_tr (frM_su o58 (by decide) (by decide)) os)
          obtain ⟨cs, ts, ks⟩ := as2 hq
          refine t_ifne (t := 71) dX5_readSum_66 (by decide) (fun h66 => ?_) (fun h66 => False.elim (by omega))
          refine r_aloadR0 dX5_readSum_71 ?_
          refine r_iload3 dX5_readSum_72 ?_
          refine q_callV1 zm_RX5_173 dX5_readSum_73 hr.1 (by decide) rfl (Nat.le_of_ble_eq_true rfl) (Nat.le_of_ble_eq_true rfl) (Nat.le_of_ble_eq_true rfl) (Nat.le_of_ble_eq_true rfl) (Nat.le_of_ble_eq_true rfl) (s_X5_emit (u := u + c.length + ((chP B n (atP B n (if lm = 5 then 8 else 6) 2) (opT B n)) (nxP B n ps)).2.2.length) G hr ks.1 (by omega) (fun g73 o73 a73 b73 c73 => ?_))
          refine n_iinc2 dX5_readSum_76 (by decide) rfl (by omega) (fun r76 e76 => ?_)
          refine r_goto (t := 12) dX5_readSum_79 (by decide) ?_
          refine ih _ (i + 1) k2_z ((chP B n (atP B n (if lm = 5 then 8 else 6) 2) (opT B n)) (nxP B n ps)).2.1 (c ++ ((chP B n (atP B n (if lm = 5 then 8 else 6) 2) (opT B n)) (nxP B n ps)).2.2 ++ [(opS B n) ps]) g73 _ _ (by omega) (frM_tr ofs (frM_su o73 (by decide) (by decide))) (tkR_of ts o73 (by decide) (by decide) (by decide) (by decide)) (okR_ap (okR_ap hok (okR_cg ks wn rfl rfl)) ?_) (by omega) y2 ?_ (by omega) ?_ (by omega)
          · rw [List.length_append, ← Nat.add_assoc, hop]
            exact okR_one a73 b73 c73 (by omega)
          · rw [List.length_append, List.length_append, List.length_singleton]
            omega
          · exact (lpP_on (r := (0, ps, c)) rfl hop0 hq).symm.trans hR
        · have hv : ((chP B n (atP B n (if lm = 5 then 8 else 6) 2) (opT B n)) (nxP B n ps)) = chP B n (chP B n (atP B n (if lm = 5 then 8 else 6) 2) (opT B n)) (opS B n) p := (lpP_sub (k := k2_z) (r := (0, ps, c)) rfl hop0 hq).symm.trans hR
          refine r_iload2 dX5_readSum_12 ?_
          refine r_aloadR0 dX5_readSum_13 ?_
          refine m_getV (x := (f2_z A 1)) zf_RX5_15 rfl dX5_readSum_14 hr.1 (rfl) ?_
          refine t_icge (t := 82) dX5_readSum_17 (by decide) (fun h17 => False.elim (by omega)) (fun h17 => ?_)
          refine r_aloadR0 dX5_readSum_20 ?_
          refine m_getV (x := (f2_z A 4)) zf_RX5_25 rfl dX5_readSum_21 hr.1 (rfl) ?_
          refine n_bipush dX5_readSum_24 (by decide) (fun r24 e24_z => ?_)
          refine t_iceq (t := 38) dX5_readSum_26 (by decide) (fun h26 => ?_) (fun h26 => False.elim (by omega))
          refine r_aloadR0 dX5_readSum_38 ?_
          refine m_getV (x := (f2_z A 4)) zf_RX5_25 rfl dX5_readSum_39 hr.1 (rfl) ?_
          refine n_bipush dX5_readSum_42 (by decide) (fun r42 e42_z => ?_)
          refine t_icne (t := 53) dX5_readSum_44 (by decide) (fun h44 => False.elim (by omega)) (fun h44 => ?_)
          refine n_sipush dX5_readSum_47 (by decide) (fun r47 e47 => ?_)
          refine r_goto (t := 56) dX5_readSum_50 (by decide) ?_
          refine r_istore3 dX5_readSum_56 rfl ?_
          refine r_aloadR0 dX5_readSum_57 ?_
          refine q_callV0 zm_RX5_73 dX5_readSum_58 hr.1 (by decide) rfl (Nat.le_of_ble_eq_true rfl) (Nat.le_of_ble_eq_true rfl) (Nat.le_of_ble_eq_true rfl) (Nat.le_of_ble_eq_true rfl) (Nat.le_of_ble_eq_true rfl) (s_X5_next (p := teP B n ps) G hr kw ko htp2 htk2.2.1 (teP_le htk2.1) htk2.2.2.2.2.2.2 (fun v58 g58 o58 t58 => ?_))
          have t58 : tkR ca B n g58 v58 A (nxP B n ps) := t58
          have htpn := tpR_of htp2 ht o58 (by decide)
          have wn : g58 (A + 8) = f2_z (A + 8) := o58.2.1 8 (by decide) (by decide) (by decide)
          refine r_aloadR0 dX5_readSum_61 ?_
          refine r_iload1 dX5_readSum_62 ?_
          refine q_callV1 zm_RX5_191 dX5_readSum_63 hr.1 (by decide) rfl (Nat.le_of_ble_eq_true rfl) (Nat.le_of_ble_eq_true rfl) (Nat.le_of_ble_eq_true rfl) (Nat.le_of_ble_eq_true rfl) (Nat.le_of_ble_eq_true rfl) (s_X5_readTerm_2 (lm := lm) (u := u + c.length) G hr kw ko htpn t58 hx (by rw [o58.2.2 10 (by decide), ofr.2.2 10 (by decide)]; exact hol) (by rw [o58.2.2 9 (by decide)]; exact hok.1) (by omega) (fun rs vs gs os as bs => ?_))
          have as2 : ((chP B n (atP B n (if lm = 5 then 8 else 6) 2) (opT B n)) (nxP B n ps)).1 = 0 → rs.toInt = 1 ∧ tkR ca B n gs vs A ((chP B n (atP B n (if lm = 5 then 8 else 6) 2) (opT B n)) (nxP B n ps)).2.1 ∧ okR g58 gs A (u + c.length) ((chP B n (atP B n (if lm = 5 then 8 else 6) 2) (opT B n)) (nxP B n ps)).2.2 := as
          have bs2 : ((chP B n (atP B n (if lm = 5 then 8 else 6) 2) (opT B n)) (nxP B n ps)).1 ≠ 0 → rs.toInt = 0 ∧ flR gs A ((chP B n (atP B n (if lm = 5 then 8 else 6) 2) (opT B n)) (nxP B n ps)).1 ((chP B n (atP B n (if lm = 5 then 8 else 6) 2) (opT B n)) (nxP B n ps)).2.1 := bs
          have ofs : frM A [8] [2, 3, 4, 5, 9, 11, 12] f gs := frM_tr ofr (frM_tr (frM_su o58 (by decide) (by decide)) os)
          obtain ⟨cs, ls⟩ := bs2 hq
          refine t_ifne (t := 71) dX5_readSum_66 (by decide) (fun h66 => False.elim (by omega)) (fun h66 => ?_)
          refine n_iconst dX5_readSum_69 (by decide) (fun r69 e69 => ?_)
          refine m_zret dX5_readSum_70 rfl (by omega) (Nat.le_of_ble_eq_true rfl) (Nat.le_of_ble_eq_true rfl) ?_
          rw [← hv] at hQ
          exact hQ _ _ gs ofs (fun h_z => absurd h_z hq) (fun _ => ⟨e69, ls⟩)
      have hcn := hc_z
      clear hc_z
      by_cases hc_z : tkP B n ps = 45
      · have hop : (opS B n) ps = 2004 := (if_neg (by omega)).trans (if_pos hc_z)
        have hop0 : (opS B n) ps ≠ 0 := by rw [hop]; decide
        have hln := tk_lt (B := B) (n := n) (s := ps) (by rw [hc_z]; decide)
        obtain ⟨k2_z, rfl⟩ : ∃ k2_z, k = k2_z + 1 := ⟨k - 1, by omega⟩
        have hnx := nxP_gt (B := B) hln
        have gq := hgd _ hnx.2
        by_cases hq : ((chP B n (atP B n (if lm = 5 then 8 else 6) 2) (opT B n)) (nxP B n ps)).1 = 0
        · obtain ⟨y1, y2, y3, y4⟩ := gq.1 hq
          refine r_iload2 dX5_readSum_12 ?_
          refine r_aloadR0 dX5_readSum_13 ?_
          refine m_getV (x := (f2_z A 1)) zf_RX5_15 rfl dX5_readSum_14 hr.1 (rfl) ?_
          refine t_icge (t := 82) dX5_readSum_17 (by decide) (fun h17 => False.elim (by omega)) (fun h17 => ?_)
          refine r_aloadR0 dX5_readSum_20 ?_
          refine m_getV (x := (f2_z A 4)) zf_RX5_25 rfl dX5_readSum_21 hr.1 (rfl) ?_
          refine n_bipush dX5_readSum_24 (by decide) (fun r24 e24_z => ?_)
          refine t_iceq (t := 38) dX5_readSum_26 (by decide) (fun h26 => False.elim (by omega)) (fun h26 => ?_)
          refine r_aloadR0 dX5_readSum_29 ?_
          refine m_getV (x := (f2_z A 4)) zf_RX5_25 rfl dX5_readSum_30 hr.1 (rfl) ?_
          refine n_bipush dX5_readSum_33 (by decide) (fun r33 e33_z => ?_)
          refine t_icne (t := 82) dX5_readSum_35 (by decide) (fun h35 => False.elim (by omega)) (fun h35 => ?_)
          refine r_aloadR0 dX5_readSum_38 ?_
          refine m_getV (x := (f2_z A 4)) zf_RX5_25 rfl dX5_readSum_39 hr.1 (rfl) ?_
          refine n_bipush dX5_readSum_42 (by decide) (fun r42 e42_z => ?_)
          refine t_icne (t := 53) dX5_readSum_44 (by decide) (fun h44 => ?_) (fun h44 => False.elim (by omega))
          refine n_sipush dX5_readSum_53 (by decide) (fun r53 e53 => ?_)
          refine r_istore3 dX5_readSum_56 rfl ?_
          refine r_aloadR0 dX5_readSum_57 ?_
          refine q_callV0 zm_RX5_73 dX5_readSum_58 hr.1 (by decide) rfl (Nat.le_of_ble_eq_true rfl) (Nat.le_of_ble_eq_true rfl) (Nat.le_of_ble_eq_true rfl) (Nat.le_of_ble_eq_true rfl) (Nat.le_of_ble_eq_true rfl) (s_X5_next (p := teP B n ps) G hr kw ko htp2 htk2.2.1 (teP_le htk2.1) htk2.2.2.2.2.2.2 (fun v58 g58 o58 t58 => ?_))
          have t58 : tkR ca B n g58 v58 A (nxP B n ps) := t58
          have htpn := tpR_of htp2 ht o58 (by decide)
          have wn : g58 (A + 8) = f2_z (A + 8) := o58.2.1 8 (by decide) (by decide) (by decide)
          refine r_aloadR0 dX5_readSum_61 ?_
          refine r_iload1 dX5_readSum_62 ?_
          refine q_callV1 zm_RX5_191 dX5_readSum_63 hr.1 (by decide) rfl (Nat.le_of_ble_eq_true rfl) (Nat.le_of_ble_eq_true rfl) (Nat.le_of_ble_eq_true rfl) (Nat.le_of_ble_eq_true rfl) (Nat.le_of_ble_eq_true rfl) (s_X5_readTerm_2 (lm := lm) (u := u + c.length) G hr kw ko htpn t58 hx (by rw [o58.2.2 10 (by decide), ofr.2.2 10 (by decide)]; exact hol) (by rw [o58.2.2 9 (by decide)]; exact hok.1) (by omega) (fun rs vs gs os as bs => ?_))
          have as2 : ((chP B n (atP B n (if lm = 5 then 8 else 6) 2) (opT B n)) (nxP B n ps)).1 = 0 → rs.toInt = 1 ∧ tkR ca B n gs vs A ((chP B n (atP B n (if lm = 5 then 8 else 6) 2) (opT B n)) (nxP B n ps)).2.1 ∧ okR g58 gs A (u + c.length) ((chP B n (atP B n (if lm = 5 then 8 else 6) 2) (opT B n)) (nxP B n ps)).2.2 := as
          have bs2 : ((chP B n (atP B n (if lm = 5 then 8 else 6) 2) (opT B n)) (nxP B n ps)).1 ≠ 0 → rs.toInt = 0 ∧ flR gs A ((chP B n (atP B n (if lm = 5 then 8 else 6) 2) (opT B n)) (nxP B n ps)).1 ((chP B n (atP B n (if lm = 5 then 8 else 6) 2) (opT B n)) (nxP B n ps)).2.1 := bs
          have ofs : frM A [8] [2, 3, 4, 5, 9, 11, 12] f gs := frM_tr ofr (frM_tr (frM_su o58 (by decide) (by decide)) os)
          obtain ⟨cs, ts, ks⟩ := as2 hq
          refine t_ifne (t := 71) dX5_readSum_66 (by decide) (fun h66 => ?_) (fun h66 => False.elim (by omega))
          refine r_aloadR0 dX5_readSum_71 ?_
          refine r_iload3 dX5_readSum_72 ?_
          refine q_callV1 zm_RX5_173 dX5_readSum_73 hr.1 (by decide) rfl (Nat.le_of_ble_eq_true rfl) (Nat.le_of_ble_eq_true rfl) (Nat.le_of_ble_eq_true rfl) (Nat.le_of_ble_eq_true rfl) (Nat.le_of_ble_eq_true rfl) (s_X5_emit (u := u + c.length + ((chP B n (atP B n (if lm = 5 then 8 else 6) 2) (opT B n)) (nxP B n ps)).2.2.length) G hr ks.1 (by omega) (fun g73 o73 a73 b73 c73 => ?_))
          refine n_iinc2 dX5_readSum_76 (by decide) rfl (by omega) (fun r76 e76 => ?_)
          refine r_goto (t := 12) dX5_readSum_79 (by decide) ?_
          refine ih _ (i + 1) k2_z ((chP B n (atP B n (if lm = 5 then 8 else 6) 2) (opT B n)) (nxP B n ps)).2.1 (c ++ ((chP B n (atP B n (if lm = 5 then 8 else 6) 2) (opT B n)) (nxP B n ps)).2.2 ++ [(opS B n) ps]) g73 _ _ (by omega) (frM_tr ofs (frM_su o73 (by decide) (by decide))) (tkR_of ts o73 (by decide) (by decide) (by decide) (by decide)) (okR_ap (okR_ap hok (okR_cg ks wn rfl rfl)) ?_) (by omega) y2 ?_ (by omega) ?_ (by omega)
          · rw [List.length_append, ← Nat.add_assoc, hop]
            exact okR_one a73 b73 c73 (by omega)
          · rw [List.length_append, List.length_append, List.length_singleton]
            omega
          · exact (lpP_on (r := (0, ps, c)) rfl hop0 hq).symm.trans hR
        · have hv : ((chP B n (atP B n (if lm = 5 then 8 else 6) 2) (opT B n)) (nxP B n ps)) = chP B n (chP B n (atP B n (if lm = 5 then 8 else 6) 2) (opT B n)) (opS B n) p := (lpP_sub (k := k2_z) (r := (0, ps, c)) rfl hop0 hq).symm.trans hR
          refine r_iload2 dX5_readSum_12 ?_
          refine r_aloadR0 dX5_readSum_13 ?_
          refine m_getV (x := (f2_z A 1)) zf_RX5_15 rfl dX5_readSum_14 hr.1 (rfl) ?_
          refine t_icge (t := 82) dX5_readSum_17 (by decide) (fun h17 => False.elim (by omega)) (fun h17 => ?_)
          refine r_aloadR0 dX5_readSum_20 ?_
          refine m_getV (x := (f2_z A 4)) zf_RX5_25 rfl dX5_readSum_21 hr.1 (rfl) ?_
          refine n_bipush dX5_readSum_24 (by decide) (fun r24 e24_z => ?_)
          refine t_iceq (t := 38) dX5_readSum_26 (by decide) (fun h26 => False.elim (by omega)) (fun h26 => ?_)
          refine r_aloadR0 dX5_readSum_29 ?_
          refine m_getV (x := (f2_z A 4)) zf_RX5_25 rfl dX5_readSum_30 hr.1 (rfl) ?_
          refine n_bipush dX5_readSum_33 (by decide) (fun r33 e33_z => ?_)
          refine t_icne (t := 82) dX5_readSum_35 (by decide) (fun h35 => False.elim (by omega)) (fun h35 => ?_)
          refine r_aloadR0 dX5_readSum_38 ?_
          refine m_getV (x := (f2_z A 4)) zf_RX5_25 rfl dX5_readSum_39 hr.1 (rfl) ?_
          refine n_bipush dX5_readSum_42 (by decide) (fun r42 e42_z => ?_)
          refine t_icne (t := 53) dX5_readSum_44 (by decide) (fun h44 => ?_) (fun h44 => False.elim (by omega))
          refine n_sipush dX5_readSum_53 (by decide) (fun r53 e53 => ?_)
          refine r_istore3 dX5_readSum_56 rfl ?_
          refine r_aloadR0 dX5_readSum_57 ?_
          refine q_callV0 zm_RX5_73 dX5_readSum_58 hr.1 (by decide) rfl (Nat.le_of_ble_eq_true rfl) (Nat.le_of_ble_eq_true rfl) (Nat.le_of_ble_eq_true rfl) (Nat.le_of_ble_eq_true rfl) (Nat.le_of_ble_eq_true rfl) (s_X5_next (p := teP B n ps) G hr kw ko htp2 htk2.2.1 (teP_le htk2.1) htk2.2.2.2.2.2.2 (fun v58 g58 o58 t58 => ?_))
          have t58 : tkR ca B n g58 v58 A (nxP B n ps) := t58
          have htpn := tpR_of htp2 ht o58 (by decide)
          have wn : g58 (A + 8) = f2_z (A + 8) := o58.2.1 8 (by decide) (by decide) (by decide)
          refine r_aloadR0 dX5_readSum_61 ?_
          refine r_iload1 dX5_readSum_62 ?_
          refine q_callV1 zm_RX5_191 dX5_readSum_63 hr.1 (by decide) rfl (Nat.le_of_ble_eq_true rfl) (Nat.le_of_ble_eq_true rfl) (Nat.le_of_ble_eq_true rfl) (Nat.le_of_ble_eq_true rfl) (Nat.le_of_ble_eq_true rfl) (s_X5_readTerm_2 (lm := lm) (u := u + c.length) G hr kw ko htpn t58 hx (by rw [o58.2.2 10 (by decide), ofr.2.2 10 (by decide)]; exact hol) (by rw [o58.2.2 9 (by decide)]; exact hok.1) (by omega) (fun rs vs gs os as bs => ?_))
          have as2 : ((chP B n (atP B n (if lm = 5 then 8 else 6) 2) (opT B n)) (nxP B n ps)).1 = 0 → rs.toInt = 1 ∧ tkR ca B n gs vs A ((chP B n (atP B n (if lm = 5 then 8 else 6) 2) (opT B n)) (nxP B n ps)).2.1 ∧ okR g58 gs A (u + c.length) ((chP B n (atP B n (if lm = 5 then 8 else 6) 2) (opT B n)) (nxP B n ps)).2.2 := as
          have bs2 : ((chP B n (atP B n (if lm = 5 then 8 else 6) 2) (opT B n)) (nxP B n ps)).1 ≠ 0 → rs.toInt = 0 ∧ flR gs A ((chP B n (atP B n (if lm = 5 then 8 else 6) 2) (opT B n)) (nxP B n ps)).1 ((chP B n (atP B n (if lm = 5 then 8 else 6) 2) (opT B n)) (nxP B n ps)).2.1 := bs
          have ofs : frM A [8] [2, 3, 4, 5, 9, 11, 12] f gs := frM_tr ofr (frM_tr (frM_su o58 (by decide) (by decide)) os)
          obtain ⟨cs, ls⟩ := bs2 hq
          refine t_ifne (t := 71) dX5_readSum_66 (by decide) (fun h66 => False.elim (by omega)) (fun h66 => ?_)
          refine n_iconst dX5_readSum_69 (by decide) (fun r69 e69 => ?_)
          refine m_zret dX5_readSum_70 rfl (by omega) (Nat.le_of_ble_eq_true rfl) (Nat.le_of_ble_eq_true rfl) ?_
          rw [← hv] at hQ
          exact hQ _ _ gs ofs (fun h_z => absurd h_z hq) (fun _ => ⟨e69, ls⟩)
      have hop : (opS B n) ps = 0 := (if_neg hcn).trans (if_neg hc_z)
      have hv := (lpP_end (B := B) (n := n) (k := k) (sub := (chP B n (atP B n (if lm = 5 then 8 else 6) 2) (opT B n))) (r := (0, ps, c)) hop).symm.trans hR
      refine r_iload2 dX5_readSum_12 ?_
      refine r_aloadR0 dX5_readSum_13 ?_
      refine m_getV (x := (f2_z A 1)) zf_RX5_15 rfl dX5_readSum_14 hr.1 (rfl) ?_
      refine t_icge (t := 82) dX5_readSum_17 (by decide) (fun h17 => False.elim (by omega)) (fun h17 => ?_)
      refine r_aloadR0 dX5_readSum_20 ?_
      refine m_getV (x := (f2_z A 4)) zf_RX5_25 rfl dX5_readSum_21 hr.1 (rfl) ?_
      refine n_bipush dX5_readSum_24 (by decide) (fun r24 e24_z => ?_)
      refine t_iceq (t := 38) dX5_readSum_26 (by decide) (fun h26 => False.elim (by omega)) (fun h26 => ?_)
      refine r_aloadR0 dX5_readSum_29 ?_
      refine m_getV (x := (f2_z A 4)) zf_RX5_25 rfl dX5_readSum_30 hr.1 (rfl) ?_
      refine n_bipush dX5_readSum_33 (by decide) (fun r33 e33_z => ?_)
      refine t_icne (t := 82) dX5_readSum_35 (by decide) (fun h35 => ?_) (fun h35 => False.elim (by omega))
      refine n_iconst dX5_readSum_82 (by decide) (fun r82 e82 => ?_)
      refine m_zret dX5_readSum_83 rfl (by omega) (Nat.le_of_ble_eq_true rfl) (Nat.le_of_ble_eq_true rfl) ?_
      rw [← hv] at hQ
      exact hQ _ _ f2_z ofr (fun _ => ⟨e82, htk2, hok⟩) (fun h_z => absurd rfl h_z)
  have gp := hgd p hpn
  by_cases hq : ((chP B n (atP B n (if lm = 5 then 8 else 6) 2) (opT B n)) p).1 = 0
  · obtain ⟨y1, y2, y3, y4⟩ := gp.1 hq
    have hz : ((chP B n (atP B n (if lm = 5 then 8 else 6) 2) (opT B n)) p) = (0, ((chP B n (atP B n (if lm = 5 then 8 else 6) 2) (opT B n)) p).2.1, ((chP B n (atP B n (if lm = 5 then 8 else 6) 2) (opT B n)) p).2.2) := Prod.ext hq rfl
    refine r_aloadR0 dX5_readSum_0 ?_
    refine r_iload1 dX5_readSum_1 ?_
    refine q_callV1 zm_RX5_191 dX5_readSum_2 hr.1 (by decide) rfl (Nat.le_of_ble_eq_true rfl) (Nat.le_of_ble_eq_true rfl) (Nat.le_of_ble_eq_true rfl) (Nat.le_of_ble_eq_true rfl) (Nat.le_of_ble_eq_true rfl) (s_X5_readTerm_2 G hr kw ko htp htk hx hol hu hup (fun r2 v2 g2 o2 a2 b2 => ?_))
    have a2b : ((chP B n (atP B n (if lm = 5 then 8 else 6) 2) (opT B n)) p).1 = 0 → r2.toInt = 1 ∧ tkR ca B n g2 v2 A ((chP B n (atP B n (if lm = 5 then 8 else 6) 2) (opT B n)) p).2.1 ∧ okR f g2 A u ((chP B n (atP B n (if lm = 5 then 8 else 6) 2) (opT B n)) p).2.2 := a2
    have b2b : ((chP B n (atP B n (if lm = 5 then 8 else 6) 2) (opT B n)) p).1 ≠ 0 → r2.toInt = 0 ∧ flR g2 A ((chP B n (atP B n (if lm = 5 then 8 else 6) 2) (opT B n)) p).1 ((chP B n (atP B n (if lm = 5 then 8 else 6) 2) (opT B n)) p).2.1 := b2
    obtain ⟨c2_z, t2, k2_z⟩ := a2b hq
    refine t_ifne (t := 10) dX5_readSum_5 (by decide) (fun h5 => ?_) (fun h5 => False.elim (by omega))
    refine n_iconst dX5_readSum_10 (by decide) (fun r10 e10_z => ?_)
    refine r_istore2 dX5_readSum_11 rfl ?_
    exact lp (n + 1) _ 0 n ((chP B n (atP B n (if lm = 5 then 8 else 6) 2) (opT B n)) p).2.1 ((chP B n (atP B n (if lm = 5 then 8 else 6) 2) (opT B n)) p).2.2 g2 _ _ (by omega) o2 t2 k2_z (by omega) y2 y3 (by omega) (by rw [← hz]; rfl) (Nat.lt_succ_self n)
  · have hv : chP B n (chP B n (atP B n (if lm = 5 then 8 else 6) 2) (opT B n)) (opS B n) p = ((chP B n (atP B n (if lm = 5 then 8 else 6) 2) (opT B n)) p) := lpP_bad hq
    rw [hv] at hQ
    refine r_aloadR0 dX5_readSum_0 ?_
    refine r_iload1 dX5_readSum_1 ?_
    refine q_callV1 zm_RX5_191 dX5_readSum_2 hr.1 (by decide) rfl (Nat.le_of_ble_eq_true rfl) (Nat.le_of_ble_eq_true rfl) (Nat.le_of_ble_eq_true rfl) (Nat.le_of_ble_eq_true rfl) (Nat.le_of_ble_eq_true rfl) (s_X5_readTerm_2 G hr kw ko htp htk hx hol hu hup (fun r2 v2 g2 o2 a2 b2 => ?_))
    have a2b : ((chP B n (atP B n (if lm = 5 then 8 else 6) 2) (opT B n)) p).1 = 0 → r2.toInt = 1 ∧ tkR ca B n g2 v2 A ((chP B n (atP B n (if lm = 5 then 8 else 6) 2) (opT B n)) p).2.1 ∧ okR f g2 A u ((chP B n (atP B n (if lm = 5 then 8 else 6) 2) (opT B n)) p).2.2 := a2
    have b2b : ((chP B n (atP B n (if lm = 5 then 8 else 6) 2) (opT B n)) p).1 ≠ 0 → r2.toInt = 0 ∧ flR g2 A ((chP B n (atP B n (if lm = 5 then 8 else 6) 2) (opT B n)) p).1 ((chP B n (atP B n (if lm = 5 then 8 else 6) 2) (opT B n)) p).2.1 := b2
    obtain ⟨c2_z, l2⟩ := b2b hq
    refine t_ifne (t := 10) dX5_readSum_5 (by decide) (fun h5 => False.elim (by omega)) (fun h5 => ?_)
    refine n_iconst dX5_readSum_8 (by decide) (fun r8 e8 => ?_)
    refine m_zret dX5_readSum_9 rfl (by omega) (Nat.le_of_ble_eq_true rfl) (Nat.le_of_ble_eq_true rfl) ?_
    exact hQ _ _ g2 o2 (fun h_z => absurd h_z hq) (fun _ => ⟨e8, l2⟩)
set_option maxHeartbeats 4000000 in
set_option maxRecDepth 100000 in
theorem s_X5_readAtom_3 {g : zGT} {w : zW} {f : Nat → Nat → Int32} {j : Nat → Nat → Int64} {A tq nq : Nat} {v : Option Nat} {B : Nat → Nat} {n : Nat} {ca wa wv : Nat → Nat} {kq ta sm gq gv : Nat} {p lm u : Nat} {x : Int32} {Q : Option Value → zW → Prop} {QX : String → zW → Prop} (G : zGok g) (hr : shRd w A tq nq) (kw : kWd g wa wv kq) (ko : kWo g ca wa wv ta sm gq gv) (htp : tpR B n f A tq) (htk : tkR ca B n f v A p) (hx : x.toInt = 3) (hol : (f A 10).toInt = if lm = 5 then 1 else 0) (hu : (f A 9).toInt = (u : Nat)) (hup : u ≤ p) (hQ : ∀ (b : Int32) v2 f2_z, frM A [8] [2, 3, 4, 5, 9, 11, 12] f f2_z → ((atP B n (if lm = 5 then 8 else 6) 3 p).1 = 0 → b.toInt = 1 ∧ tkR ca B n f2_z v2 A (atP B n (if lm = 5 then 8 else 6) 3 p).2.1 ∧ okR f f2_z A u (atP B n (if lm = 5 then 8 else 6) 3 p).2.2) → ((atP B n (if lm = 5 then 8 else 6) 3 p).1 ≠ 0 → b.toInt = 0 ∧ flR f2_z A (atP B n (if lm = 5 then 8 else 6) 3 p).1 (atP B n (if lm = 5 then 8 else 6) 3 p).2.1) → Q (some (.int b)) (zM (wW w A v2) f2_z j)) : zC g 22 yX5_readAtom cX5_readAtom 3 (some .boolean) [.ref A, .int x] (zM (wW w A v) f j) (0, 0) Q QX := by
  refine zC_of G (by decide +kernel) (Nat.le_of_ble_eq_true rfl) ?_
  have ht := hr.2.2.2.2.2.2
  have h4 := htk.2.2.2.1
  have hpn := htk.1
  have h900 := htp.2.1
  by_cases hp : tkP B n p = 40
  · have hv : atP B n (if lm = 5 then 8 else 6) 3 p = clP B n 41 (suP B n (atP B n (if lm = 5 then 8 else 6) 2) (nxP B n p)) := if_pos hp
    rw [hv] at hQ
    have hln := tk_lt (B := B) (n := n) (s := p) (by rw [hp]; decide)
    have hnx := nxP_gt (B := B) hln
    by_cases hq : (suP B n (atP B n (if lm = 5 then 8 else 6) 2) (nxP B n p)).1 = 0
    · by_cases h41 : tkP B n (suP B n (atP B n (if lm = 5 then 8 else 6) 2) (nxP B n p)).2.1 = 41
      · have hv2 : clP B n 41 (suP B n (atP B n (if lm = 5 then 8 else 6) 2) (nxP B n p)) = (0, nxP B n (suP B n (atP B n (if lm = 5 then 8 else 6) 2) (nxP B n p)).2.1, (suP B n (atP B n (if lm = 5 then 8 else 6) 2) (nxP B n p)).2.2) := (if_neg (not_not_intro hq)).trans (if_pos h41)
        rw [hv2] at hQ
        refine r_aloadR0 dX5_readAtom_0 ?_
        refine m_getV (x := (f A 4)) zf_RX5_25 rfl dX5_readAtom_1 hr.1 (rfl) ?_
        refine n_bipush dX5_readAtom_4 (by decide) (fun r4 e4_z => ?_)
        refine t_icne (t := 42) dX5_readAtom_6 (by decide) (fun h6 => False.elim (by omega)) (fun h6 => ?_)
        refine r_aloadR0 dX5_readAtom_9 ?_
        refine r_iload1 dX5_readAtom_10 ?_
        refine q_callV1 zm_RX5_185 dX5_readAtom_11 hr.1 (by decide) rfl (Nat.le_of_ble_eq_true rfl) (Nat.le_of_ble_eq_true rfl) (Nat.le_of_ble_eq_true rfl) (Nat.le_of_ble_eq_true rfl) (Nat.le_of_ble_eq_true rfl) (s_X5_goDeeper (d := 3) G hr kw ko htp hx htk (fun r11 v11 g11 o11 a11 b11 => ?_))
        obtain ⟨c11, t11⟩ := a11 (by decide)
        have htp11 := tpR_of htp ht o11 (by decide)
        have w11 : g11 (A + 8) = f (A + 8) := o11.2.1 8 (by decide) (by decide) (by decide)
        refine t_ifeq (t := 40) dX5_readAtom_14 (by decide) (fun h14 => False.elim (by omega)) (fun h14 => ?_)
        refine r_aloadR0 dX5_readAtom_17 ?_
        refine r_iload1 dX5_readAtom_18 ?_
        refine n_iconst dX5_readAtom_19 (by decide) (fun r19 e19_z => ?_)
        refine n_iadd dX5_readAtom_20 (by omega) (fun r20 e20 => ?_)
        refine q_callV1 zm_RX5_146 dX5_readAtom_21 hr.1 (by decide) rfl (Nat.le_of_ble_eq_true rfl) (Nat.le_of_ble_eq_true rfl) (Nat.le_of_ble_eq_true rfl) (Nat.le_of_ble_eq_true rfl) (Nat.le_of_ble_eq_true rfl) (s_X5_readSum_2 (lm := lm) (u := u) G hr kw ko htp11 t11 (by omega) (by rw [o11.2.2 10 (by decide)]; exact hol) (by rw [o11.2.2 9 (by decide)]; exact hu) (by omega) (fun r21 v21 g21 o21 a21 b21 => ?_))
        have a21b : (suP B n (atP B n (if lm = 5 then 8 else 6) 2) (nxP B n p)).1 = 0 → r21.toInt = 1 ∧ tkR ca B n g21 v21 A (suP B n (atP B n (if lm = 5 then 8 else 6) 2) (nxP B n p)).2.1 ∧ okR g11 g21 A u (suP B n (atP B n (if lm = 5 then 8 else 6) 2) (nxP B n p)).2.2 := a21
        have b21b : (suP B n (atP B n (if lm = 5 then 8 else 6) 2) (nxP B n p)).1 ≠ 0 → r21.toInt = 0 ∧ flR g21 A (suP B n (atP B n (if lm = 5 then 8 else 6) 2) (nxP B n p)).1 (suP B n (atP B n (if lm = 5 then 8 else 6) 2) (nxP B n p)).2.1 := b21
        have of21 : frM A [8] [2, 3, 4, 5, 9, 11, 12] f g21 := frM_tr (frM_su o11 (by decide) (by decide)) o21
        obtain ⟨c21, t21, k21⟩ := a21b hq
        refine t_ifeq (t := 40) dX5_readAtom_24 (by decide) (fun h24 => False.elim (by omega)) (fun h24 => ?_)
        refine r_aloadR0 dX5_readAtom_27 ?_
        refine n_bipush dX5_readAtom_28 (by decide) (fun r28 e28_z => ?_)
        refine q_callV1 zm_RX5_102 dX5_readAtom_30 hr.1 (by decide) rfl (Nat.le_of_ble_eq_true rfl) (Nat.le_of_ble_eq_true rfl) (Nat.le_of_ble_eq_true rfl) (Nat.le_of_ble_eq_true rfl) (Nat.le_of_ble_eq_true rfl) (s_X5_takeSign (s := (suP B n (atP B n (if lm = 5 then 8 else 6) 2) (nxP B n p)).2.1) (c := 41) G hr kw ko (tpR_of htp ht of21 (by decide)) e28_z t21 (fun r30 v30 g30 o30 a30 b30 => ?_))
        obtain ⟨c30, t30⟩ := a30 h41
        refine t_ifeq (t := 40) dX5_readAtom_33 (by decide) (fun h33 => False.elim (by omega)) (fun h33 => ?_)
        refine n_iconst dX5_readAtom_36 (by decide) (fun r36 e36 => ?_)
        refine r_goto (t := 41) dX5_readAtom_37 (by decide) ?_
        refine m_zret dX5_readAtom_41 rfl (by omega) (Nat.le_of_ble_eq_true rfl) (Nat.le_of_ble_eq_true rfl) ?_
        exact hQ _ _ g30 (frM_tr of21 (frM_su o30 (by decide) (by decide))) (fun _ => ⟨e36, t30, okR_cg k21 w11 (o30.2.1 8 (by decide) (by decide) (by decide)) (o30.2.2 9 (by decide))⟩) (fun h_z => absurd rfl h_z)
      · have hv2 : clP B n 41 (suP B n (atP B n (if lm = 5 then 8 else 6) 2) (nxP B n p)) = (baP B n (suP B n (atP B n (if lm = 5 then 8 else 6) 2) (nxP B n p)).2.1, (suP B n (atP B n (if lm = 5 then 8 else 6) 2) (nxP B n p)).2.1, []) := (if_neg (not_not_intro hq)).trans (if_neg h41)
        rw [hv2] at hQ
        refine r_aloadR0 dX5_readAtom_0 ?_
        refine m_getV (x := (f A 4)) zf_RX5_25 rfl dX5_readAtom_1 hr.1 (rfl) ?_
        refine n_bipush dX5_readAtom_4 (by decide) (fun r4 e4_z => ?_)
        refine t_icne (t := 42) dX5_readAtom_6 (by decide) (fun h6 => False.elim (by omega)) (fun h6 => ?_)
        refine r_aloadR0 dX5_readAtom_9 ?_
        refine r_iload1 dX5_readAtom_10 ?_
        refine q_callV1 zm_RX5_185 dX5_readAtom_11 hr.1 (by decide) rfl (Nat.le_of_ble_eq_true rfl) (Nat.le_of_ble_eq_true rfl) (Nat.le_of_ble_eq_true rfl) (Nat.le_of_ble_eq_true rfl) (Nat.le_of_ble_eq_true rfl) (s_X5_goDeeper (d := 3) G hr kw ko htp hx htk (fun r11 v11 g11 o11 a11 b11 => ?_))
        obtain ⟨c11, t11⟩ := a11 (by decide)
        have htp11 := tpR_of htp ht o11 (by decide)
        have w11 : g11 (A + 8) = f (A + 8) := o11.2.1 8 (by decide) (by decide) (by decide)
        refine t_ifeq (t := 40) dX5_readAtom_14 (by decide) (fun h14 => False.elim (by omega)) (fun h14 => ?_)
        refine r_aloadR0 dX5_readAtom_17 ?_
        refine r_iload1 dX5_readAtom_18 ?_
        refine n_iconst dX5_readAtom_19 (by decide) (fun r19 e19_z => ?_)
        refine n_iadd dX5_readAtom_20 (by omega) (fun r20 e20 => ?_)
        refine q_callV1 zm_RX5_146 dX5_readAtom_21 hr.1 (by decide) rfl (Nat.le_of_ble_eq_true rfl) (Nat.le_of_ble_eq_true rfl) (Nat.le_of_ble_eq_true rfl) (Nat.le_of_ble_eq_true rfl) (Nat.le_of_ble_eq_true rfl) (s_X5_readSum_2 (lm := lm) (u := u) G hr kw ko htp11 t11 (by omega) (by rw [o11.2.2 10 (by decide)]; exact hol) (by rw [o11.2.2 9 (by decide)]; exact hu) (by omega) (fun r21 v21 g21 o21 a21 b21 => ?_))
        have a21b : (suP B n (atP B n (if lm = 5 then 8 else 6) 2) (nxP B n p)).1 = 0 → r21.toInt = 1 ∧ tkR ca B n g21 v21 A (suP B n (atP B n (if lm = 5 then 8 else 6) 2) (nxP B n p)).2.1 ∧ okR g11 g21 A u (suP B n (atP B n (if lm = 5 then 8 else 6) 2) (nxP B n p)).2.2 := a21
        have b21b : (suP B n (atP B n (if lm = 5 then 8 else 6) 2) (nxP B n p)).1 ≠ 0 → r21.toInt = 0 ∧ flR g21 A (suP B n (atP B n (if lm = 5 then 8 else 6) 2) (nxP B n p)).1 (suP B n (atP B n (if lm = 5 then 8 else 6) 2) (nxP B n p)).2.1 := b21
        have of21 : frM A [8] [2, 3, 4, 5, 9, 11, 12] f g21 := frM_tr (frM_su o11 (by decide) (by decide)) o21
        obtain ⟨c21, t21, k21⟩ := a21b hq
        refine t_ifeq (t := 40) dX5_readAtom_24 (by decide) (fun h24 => False.elim (by omega)) (fun h24 => ?_)
        refine r_aloadR0 dX5_readAtom_27 ?_
        refine n_bipush dX5_readAtom_28 (by decide) (fun r28 e28_z => ?_)
        refine q_callV1 zm_RX5_102 dX5_readAtom_30 hr.1 (by decide) rfl (Nat.le_of_ble_eq_true rfl) (Nat.le_of_ble_eq_true rfl) (Nat.le_of_ble_eq_true rfl) (Nat.le_of_ble_eq_true rfl) (Nat.le_of_ble_eq_true rfl) (s_X5_takeSign (s := (suP B n (atP B n (if lm = 5 then 8 else 6) 2) (nxP B n p)).2.1) (c := 41) G hr kw ko (tpR_of htp ht of21 (by decide)) e28_z t21 (fun r30 v30 g30 o30 a30 b30 => ?_))
        obtain ⟨c30, l30⟩ := b30 h41
        refine t_ifeq (t := 40) dX5_readAtom_33 (by decide) (fun h33 => ?_) (fun h33 => False.elim (by omega))
        refine n_iconst dX5_readAtom_40 (by decide) (fun r40 e40 => ?_)
        refine m_zret dX5_readAtom_41 rfl (by omega) (Nat.le_of_ble_eq_true rfl) (Nat.le_of_ble_eq_true rfl) ?_
        exact hQ _ _ g30 (frM_tr of21 (frM_su o30 (by decide) (by decide))) (fun h_z => absurd h_z ba_bd.1) (fun _ => ⟨e40, l30⟩)
    · have hv2 : clP B n 41 (suP B n (atP B n (if lm = 5 then 8 else 6) 2) (nxP B n p)) = (suP B n (atP B n (if lm = 5 then 8 else 6) 2) (nxP B n p)) := if_pos hq
      rw [hv2] at hQ
      refine r_aloadR0 dX5_readAtom_0 ?_
      refine m_getV (x := (f A 4)) zf_RX5_25 rfl dX5_readAtom_1 hr.1 (rfl) ?_
      refine n_bipush dX5_readAtom_4 (by decide) (fun r4 e4_z => ?_)
      refine t_icne (t := 42) dX5_readAtom_6 (by decide) (fun h6 => False.elim (by omega)) (fun h6 => ?_)
      refine r_aloadR0 dX5_readAtom_9 ?_
      refine r_iload1 dX5_readAtom_10 ?_
      refine q_callV1 zm_RX5_185 dX5_readAtom_11 hr.1 (by decide) rfl (Nat.le_of_ble_eq_true rfl) (Nat.le_of_ble_eq_true rfl) (Nat.le_of_ble_eq_true rfl) (Nat.le_of_ble_eq_true rfl) (Nat.le_of_ble_eq_true rfl) (s_X5_goDeeper (d := 3) G hr kw ko htp hx htk (fun r11 v11 g11 o11 a11 b11 => ?_))
      obtain ⟨c11, t11⟩ := a11 (by decide)
      have htp11 := tpR_of htp ht o11 (by decide)
      have w11 : g11 (A + 8) = f (A + 8) := o11.2.1 8 (by decide) (by decide) (by decide)
      refine t_ifeq (t := 40) dX5_readAtom_14 (by decide) (fun h14 => False.elim (by omega)) (fun h14 => ?_)
      refine r_aloadR0 dX5_readAtom_17 ?_
      refine r_iload1 dX5_readAtom_18 ?_
      refine n_iconst dX5_readAtom_19 (by decide) (fun r19 e19_z => ?_)
      refine n_iadd dX5_readAtom_20 (by omega) (fun r20 e20 => ?_)
      refine q_callV1 zm_RX5_146 dX5_readAtom_21 hr.1 (by decide) rfl (Nat.le_of_ble_eq_true rfl) (Nat.le_of_ble_eq_true rfl) (Nat.le_of_ble_eq_true rfl) (Nat.le_of_ble_eq_true rfl) (Nat.le_of_ble_eq_true rfl) (s_X5_readSum_2 (lm := lm) (u := u) G hr kw ko htp11 t11 (by omega) (by rw [o11.2.2 10 (by decide)]; exact hol) (by rw [o11.2.2 9 (by decide)]; exact hu) (by omega) (fun r21 v21 g21 o21 a21 b21 => ?_))
      have a21b : (suP B n (atP B n (if lm = 5 then 8 else 6) 2) (nxP B n p)).1 = 0 → r21.toInt = 1 ∧ tkR ca B n g21 v21 A (suP B n (atP B n (if lm = 5 then 8 else 6) 2) (nxP B n p)).2.1 ∧ okR g11 g21 A u (suP B n (atP B n (if lm = 5 then 8 else 6) 2) (nxP B n p)).2.2 := a21
      have b21b : (suP B n (atP B n (if lm = 5 then 8 else 6) 2) (nxP B n p)).1 ≠ 0 → r21.toInt = 0 ∧ flR g21 A (suP B n (atP B n (if lm = 5 then 8 else 6) 2) (nxP B n p)).1 (suP B n (atP B n (if lm = 5 then 8 else 6) 2) (nxP B n p)).2.1 := b21
      have of21 : frM A [8] [2, 3, 4, 5, 9, 11, 12] f g21 := frM_tr (frM_su o11 (by decide) (by decide)) o21
      obtain ⟨c21, l21⟩ := b21b hq
      refine t_ifeq (t := 40) dX5_readAtom_24 (by decide) (fun h24 => ?_) (fun h24 => False.elim (by omega))
      refine n_iconst dX5_readAtom_40 (by decide) (fun r40 e40 => ?_)
      refine m_zret dX5_readAtom_41 rfl (by omega) (Nat.le_of_ble_eq_true rfl) (Nat.le_of_ble_eq_true rfl) ?_
      exact hQ _ _ g21 of21 (fun h_z => absurd h_z hq) (fun _ => ⟨e40, l21⟩)
  have hv0 : atP B n (if lm = 5 then 8 else 6) 3 p = a1P B n (if lm = 5 then 8 else 6) p := if_neg hp
  rw [hv0] at hQ
  by_cases h2 : tkP B n p = 2
  · have hv : a1P B n (if lm = 5 then 8 else 6) p = (0, nxP B n p, [nmP B n p]) := a1_num h2
    rw [hv] at hQ
    have hln := (tk2 h2).1
    have h5 := htk.2.2.2.2.1 h2
    refine r_aloadR0 dX5_readAtom_0 ?_
    refine m_getV (x := (f A 4)) zf_RX5_25 rfl dX5_readAtom_1 hr.1 (rfl) ?_
    refine n_bipush dX5_readAtom_4 (by decide) (fun r4 e4_z => ?_)
    refine t_icne (t := 42) dX5_readAtom_6 (by decide) (fun h6 => ?_) (fun h6 => False.elim (by omega))
    refine r_aloadR0 dX5_readAtom_42 ?_
    refine m_getV (x := (f A 4)) zf_RX5_25 rfl dX5_readAtom_43 hr.1 (rfl) ?_
    refine n_iconst dX5_readAtom_46 (by decide) (fun r46 e46 => ?_)
    refine t_icne (t := 64) dX5_readAtom_47 (by decide) (fun h47 => False.elim (by omega)) (fun h47 => ?_)
    refine r_aloadR0 dX5_readAtom_50 ?_
    refine r_aloadR0 dX5_readAtom_51 ?_
    refine m_getV (x := (f A 5)) zf_RX5_28 rfl dX5_readAtom_52 hr.1 (rfl) ?_
    refine q_callV1 zm_RX5_173 dX5_readAtom_55 hr.1 (by decide) rfl (Nat.le_of_ble_eq_true rfl) (Nat.le_of_ble_eq_true rfl) (Nat.le_of_ble_eq_true rfl) (Nat.le_of_ble_eq_true rfl) (Nat.le_of_ble_eq_true rfl) (s_X5_emit (u := u) G hr hu (by omega) (fun g55 o55 a55 b55 c55 => ?_))
    have t55 := tkR_of htk o55 (by decide) (by decide) (by decide) (by decide)
    have htp55 := tpR_of htp ht o55 (by decide)
    refine r_aloadR0 dX5_readAtom_58 ?_
    refine q_callV0 zm_RX5_73 dX5_readAtom_59 hr.1 (by decide) rfl (Nat.le_of_ble_eq_true rfl) (Nat.le_of_ble_eq_true rfl) (Nat.le_of_ble_eq_true rfl) (Nat.le_of_ble_eq_true rfl) (Nat.le_of_ble_eq_true rfl) (s_X5_next (p := teP B n p) G hr kw ko htp55 t55.2.1 (teP_le t55.1) t55.2.2.2.2.2.2 (fun v59 g59 o59 t59 => ?_))
    have t59 : tkR ca B n g59 v59 A (nxP B n p) := t59
    refine n_iconst dX5_readAtom_62 (by decide) (fun r62 e62 => ?_)
    refine m_zret dX5_readAtom_63 rfl (by omega) (Nat.le_of_ble_eq_true rfl) (Nat.le_of_ble_eq_true rfl) ?_
    exact hQ _ _ g59 (frM_tr (frM_su o55 (by decide) (by decide)) (frM_su o59 (by decide) (by decide))) (fun _ => ⟨e62, t59, okR_cg (okR_one a55 b55 c55 h5) rfl (o59.2.1 8 (by decide) (by decide) (by decide)) (o59.2.2 9 (by decide))⟩) (fun h_z => absurd rfl h_z)
  have hwl := wd_le (B := B) (n := n) (s := p)
  have f1_z := fcI_ne (wdP B n p) (by omega)
  have f2_z := fcI_eq (wdP B n p) (by omega)
  have f3_z := fcP_a (wdP B n p) (by omega)
  have f9_z := fcP_9 (wdP B n p) (by omega)
  by_cases hf : tkP B n p = 3 ∧ fcP (wdP B n p) < (if lm = 5 then 8 else 6)
  · have hv : a1P B n (if lm = 5 then 8 else 6) p = (0, nxP B n p, [1000 + fcP (wdP B n p)]) := a1_fact hf
    rw [hv] at hQ
    have hv3 := htk.2.2.2.2.2.1 hf.1
    have hf8 : fcP (wdP B n p) < 8 := Nat.lt_of_lt_of_le hf.2 (by split <;> decide)
    have hln := tk_lt (B := B) (n := n) (s := p) (by rw [hf.1]; decide)
    have g3_z := f2_z (by omega)
    have n1 : (fcI (wdP B n p)).toInt ≠ -1 := fun h_z => by have := f1_z.mp h_z; omega
    by_cases h5l : lm = 5
    · rw [if_pos h5l] at hol
      refine r_aloadR0 dX5_readAtom_0 ?_
      refine m_getV (x := (f A 4)) zf_RX5_25 rfl dX5_readAtom_1 hr.1 (rfl) ?_
      refine n_bipush dX5_readAtom_4 (by decide) (fun r4 e4_z => ?_)
      refine t_icne (t := 42) dX5_readAtom_6 (by decide) (fun h6 => ?_) (fun h6 => False.elim (by omega))
      refine r_aloadR0 dX5_readAtom_42 ?_
      refine m_getV (x := (f A 4)) zf_RX5_25 rfl dX5_readAtom_43 hr.1 (rfl) ?_
      refine n_iconst dX5_readAtom_46 (by decide) (fun r46 e46 => ?_)
      refine t_icne (t := 64) dX5_readAtom_47 (by decide) (fun h47 => ?_) (fun h47 => False.elim (by omega))
      refine r_aloadR0 dX5_readAtom_64 ?_
      refine m_getV (x := (f A 4)) zf_RX5_25 rfl dX5_readAtom_65 hr.1 (rfl) ?_
      refine n_iconst dX5_readAtom_68 (by decide) (fun r68 e68 => ?_)
      refine t_icne (t := 104) dX5_readAtom_69 (by decide) (fun h69 => False.elim (by omega)) (fun h69 => ?_)
      refine r_aloadR0 dX5_readAtom_72 ?_
      refine m_getR (q := (ca (wdP B n p))) zf_RX5_37 rfl dX5_readAtom_73 hr.1 (zu_at.trans hv3) ?_
      refine k_getf (fun U hU => (ko.2.2.2.2.1 _ (Nat.lt_succ_of_le wd_le) U hU).2.2.1) zg_RX5_197 dX5_readAtom_76 ?_
      refine n_iconst dX5_readAtom_79 (by decide) (fun r79 e79 => ?_)
      refine t_iceq (t := 104) dX5_readAtom_80 (by decide) (fun h80 => False.elim (by omega)) (fun h80 => ?_)
      refine r_aloadR0 dX5_readAtom_83 ?_
      refine m_getV (x := (f A 10)) zf_RX5_54 rfl dX5_readAtom_84 hr.1 (rfl) ?_
      refine t_ifne (t := 100) dX5_readAtom_87 (by decide) (fun h87 => ?_) (fun h87 => False.elim (by omega))
      refine n_iconst dX5_readAtom_100 (by decide) (fun r100 e100_z => ?_)
      refine r_goto (t := 105) dX5_readAtom_101 (by decide) ?_
      refine r_istore2 dX5_readAtom_105 rfl ?_
      refine r_iload2 dX5_readAtom_106 ?_
      refine t_ifne (t := 115) dX5_readAtom_107 (by decide) (fun h107 => ?_) (fun h107 => False.elim (by omega))
      refine r_aloadR0 dX5_readAtom_115 ?_
      refine n_sipush dX5_readAtom_116 (by decide) (fun r116 e116 => ?_)
      refine r_aloadR0 dX5_readAtom_119 ?_
      refine m_getR (q := (ca (wdP B n p))) zf_RX5_37 rfl dX5_readAtom_120 hr.1 (zu_at.trans hv3) ?_
      refine k_getf (fun U hU => (ko.2.2.2.2.1 _ (Nat.lt_succ_of_le wd_le) U hU).2.2.1) zg_RX5_197 dX5_readAtom_123 ?_
      refine n_iadd dX5_readAtom_126 (by omega) (fun r126 e126 => ?_)
      refine q_callV1 zm_RX5_173 dX5_readAtom_127 hr.1 (by decide) rfl (Nat.le_of_ble_eq_true rfl) (Nat.le_of_ble_eq_true rfl) (Nat.le_of_ble_eq_true rfl) (Nat.le_of_ble_eq_true rfl) (Nat.le_of_ble_eq_true rfl) (s_X5_emit (u := u) G hr hu (by omega) (fun g127 o127 a127 b127 c127 => ?_))
      have t127 := tkR_of htk o127 (by decide) (by decide) (by decide) (by decide)
      have htp127 := tpR_of htp ht o127 (by decide)
      refine r_aloadR0 dX5_readAtom_130 ?_
      refine q_callV0 zm_RX5_73 dX5_readAtom_131 hr.1 (by decide) rfl (Nat.le_of_ble_eq_true rfl) (Nat.le_of_ble_eq_true rfl) (Nat.le_of_ble_eq_true rfl) (Nat.le_of_ble_eq_true rfl) (Nat.le_of_ble_eq_true rfl) (s_X5_next (p := teP B n p) G hr kw ko htp127 t127.2.1 (teP_le t127.1) t127.2.2.2.2.2.2 (fun v131 g131 o131 t131 => ?_))
      have t131 : tkR ca B n g131 v131 A (nxP B n p) := t131
      refine n_iconst dX5_readAtom_134 (by decide) (fun r134 e134 => ?_)
      refine m_zret dX5_readAtom_135 rfl (by omega) (Nat.le_of_ble_eq_true rfl) (Nat.le_of_ble_eq_true rfl) ?_
      exact hQ _ _ g131 (frM_tr (frM_su o127 (by decide) (by decide)) (frM_su o131 (by decide) (by decide))) (fun _ => ⟨e134, t131, okR_cg (okR_one a127 b127 c127 (by omega)) rfl (o131.2.1 8 (by decide) (by decide) (by decide)) (o131.2.2 9 (by decide))⟩) (fun h_z => absurd rfl h_z)
    · rw [if_neg h5l] at hol
      have h6 : fcP (wdP B n p) < 6 := by have h7 := hf.2; rw [if_neg h5l] at h7; exact h7
      have hna := (f3_z hf8).mp h6
      refine r_aloadR0 dX5_readAtom_0 ?_
      refine m_getV (x := (f A 4)) zf_RX5_25 rfl dX5_readAtom_1 hr.1 (rfl) ?_
      refine n_bipush dX5_readAtom_4 (by decide) (fun r4 e4_z => ?_)
      refine t_icne (t := 42) dX5_readAtom_6 (by decide) (fun h6 => ?_) (fun h6 => False.elim (by omega))
      refine r_aloadR0 dX5_readAtom_42 ?_
      refine m_getV (x := (f A 4)) zf_RX5_25 rfl dX5_readAtom_43 hr.1 (rfl) ?_
      refine n_iconst dX5_readAtom_46 (by decide) (fun r46 e46 => ?_)
      refine t_icne (t := 64) dX5_readAtom_47 (by decide) (fun h47 => ?_) (fun h47 => False.elim (by omega))
      refine r_aloadR0 dX5_readAtom_64 ?_
      refine m_getV (x := (f A 4)) zf_RX5_25 rfl dX5_readAtom_65 hr.1 (rfl) ?_
      refine n_iconst dX5_readAtom_68 (by decide) (fun r68 e68 => ?_)
      refine t_icne (t := 104) dX5_readAtom_69 (by decide) (fun h69 => False.elim (by omega)) (fun h69 => ?_)
      refine r_aloadR0 dX5_readAtom_72 ?_
      refine m_getR (q := (ca (wdP B n p))) zf_RX5_37 rfl dX5_readAtom_73 hr.1 (zu_at.trans hv3) ?_
      refine k_getf (fun U hU => (ko.2.2.2.2.1 _ (Nat.lt_succ_of_le wd_le) U hU).2.2.1) zg_RX5_197 dX5_readAtom_76 ?_
      refine n_iconst dX5_readAtom_79 (by decide) (fun r79 e79 => ?_)
      refine t_iceq (t := 104) dX5_readAtom_80 (by decide) (fun h80 => False.elim (by omega)) (fun h80 => ?_)
      refine r_aloadR0 dX5_readAtom_83 ?_
      refine m_getV (x := (f A 10)) zf_RX5_54 rfl dX5_readAtom_84 hr.1 (rfl) ?_
      refine t_ifne (t := 100) dX5_readAtom_87 (by decide) (fun h87 => False.elim (by omega)) (fun h87 => ?_)
      refine r_aloadR0 dX5_readAtom_90 ?_
      refine m_getR (q := (ca (wdP B n p))) zf_RX5_37 rfl dX5_readAtom_91 hr.1 (zu_at.trans hv3) ?_
      refine k_callV0 zm_RX5_200 dX5_readAtom_94 (fun U hU => (ko.2.2.2.2.1 _ (Nat.lt_succ_of_le wd_le) U hU).1) (Nat.le_of_ble_eq_true rfl) (Nat.le_of_ble_eq_true rfl) (Nat.le_of_ble_eq_true rfl) (Nat.le_of_ble_eq_true rfl) (Nat.le_of_ble_eq_true rfl) (s_X10_isOfLikesAlone (i := wdP B n p) G kw ko (by omega) (fun r94 e94_z => ?_))
      refine t_ifne (t := 104) dX5_readAtom_97 (by decide) (fun h97 => False.elim (e94_z.elim (fun h_z => hna h_z.2) (fun h_z => by omega))) (fun h97 => ?_)
      refine n_iconst dX5_readAtom_100 (by decide) (fun r100 e100_z => ?_)
      refine r_goto (t := 105) dX5_readAtom_101 (by decide) ?_
      refine r_istore2 dX5_readAtom_105 rfl ?_
      refine r_iload2 dX5_readAtom_106 ?_
      refine t_ifne (t := 115) dX5_readAtom_107 (by decide) (fun h107 => ?_) (fun h107 => False.elim (by omega))
      refine r_aloadR0 dX5_readAtom_115 ?_
      refine n_sipush dX5_readAtom_116 (by decide) (fun r116 e116 => ?_)
      refine r_aloadR0 dX5_readAtom_119 ?_
      refine m_getR (q := (ca (wdP B n p))) zf_RX5_37 rfl dX5_readAtom_120 hr.1 (zu_at.trans hv3) ?_
      refine k_getf (fun U hU => (ko.2.2.2.2.1 _ (Nat.lt_succ_of_le wd_le) U hU).2.2.1) zg_RX5_197 dX5_readAtom_123 ?_
      refine n_iadd dX5_readAtom_126 (by omega) (fun r126 e126 => ?_)
      refine q_callV1 zm_RX5_173 dX5_readAtom_127 hr.1 (by decide) rfl (Nat.le_of_ble_eq_true rfl) (Nat.le_of_ble_eq_true rfl) (Nat.le_of_ble_eq_true rfl) (Nat.le_of_ble_eq_true rfl) (Nat.le_of_ble_eq_true rfl) (s_X5_emit (u := u) G hr hu (by omega) (fun g127 o127 a127 b127 c127 => ?_))
      have t127 := tkR_of htk o127 (by decide) (by decide) (by decide) (by decide)
      have htp127 := tpR_of htp ht o127 (by decide)
      refine r_aloadR0 dX5_readAtom_130 ?_
      refine q_callV0 zm_RX5_73 dX5_readAtom_131 hr.1 (by decide) rfl (Nat.le_of_ble_eq_true rfl) (Nat.le_of_ble_eq_true rfl) (Nat.le_of_ble_eq_true rfl) (Nat.le_of_ble_eq_true rfl) (Nat.le_of_ble_eq_true rfl) (s_X5_next (p := teP B n p) G hr kw ko htp127 t127.2.1 (teP_le t127.1) t127.2.2.2.2.2.2 (fun v131 g131 o131 t131 => ?_))
      have t131 : tkR ca B n g131 v131 A (nxP B n p) := t131
      refine n_iconst dX5_readAtom_134 (by decide) (fun r134 e134 => ?_)
      refine m_zret dX5_readAtom_135 rfl (by omega) (Nat.le_of_ble_eq_true rfl) (Nat.le_of_ble_eq_true rfl) ?_
      exact hQ _ _ g131 (frM_tr (frM_su o127 (by decide) (by decide)) (frM_su o131 (by decide) (by decide))) (fun _ => ⟨e134, t131, okR_cg (okR_one a127 b127 c127 (by omega)) rfl (o131.2.1 8 (by decide) (by decide) (by decide)) (o131.2.2 9 (by decide))⟩) (fun h_z => absurd rfl h_z)
  have hba := ba_bd (B := B) (n := n) (s := p)
  have hv : a1P B n (if lm = 5 then 8 else 6) p = (baP B n p, p, []) := a1_bad h2 hf
  rw [hv] at hQ
  by_cases h3 : tkP B n p = 3
  · have hv3 := htk.2.2.2.2.2.1 h3
    by_cases h8 : fcP (wdP B n p) = 8
    · have n1 := f1_z.mpr h8
      refine r_aloadR0 dX5_readAtom_0 ?_
      refine m_getV (x := (f A 4)) zf_RX5_25 rfl dX5_readAtom_1 hr.1 (rfl) ?_
      refine n_bipush dX5_readAtom_4 (by decide) (fun r4 e4_z => ?_)
      refine t_icne (t := 42) dX5_readAtom_6 (by decide) (fun h6 => ?_) (fun h6 => False.elim (by omega))
      refine r_aloadR0 dX5_readAtom_42 ?_
      refine m_getV (x := (f A 4)) zf_RX5_25 rfl dX5_readAtom_43 hr.1 (rfl) ?_
      refine n_iconst dX5_readAtom_46 (by decide) (fun r46 e46 => ?_)
      refine t_icne (t := 64) dX5_readAtom_47 (by decide) (fun h47 => ?_) (fun h47 => False.elim (by omega))
      refine r_aloadR0 dX5_readAtom_64 ?_
      refine m_getV (x := (f A 4)) zf_RX5_25 rfl dX5_readAtom_65 hr.1 (rfl) ?_
      refine n_iconst dX5_readAtom_68 (by decide) (fun r68 e68 => ?_)
      refine t_icne (t := 104) dX5_readAtom_69 (by decide) (fun h69 => False.elim (by omega)) (fun h69 => ?_)
      refine r_aloadR0 dX5_readAtom_72 ?_
      refine m_getR (q := (ca (wdP B n p))) zf_RX5_37 rfl dX5_readAtom_73 hr.1 (zu_at.trans hv3) ?_
      refine k_getf (fun U hU => (ko.2.2.2.2.1 _ (Nat.lt_succ_of_le wd_le) U hU).2.2.1) zg_RX5_197 dX5_readAtom_76 ?_
      refine n_iconst dX5_readAtom_79 (by decide) (fun r79 e79 => ?_)
      refine t_iceq (t := 104) dX5_readAtom_80 (by decide) (fun h80 => ?_) (fun h80 => False.elim (by omega))
      refine n_iconst dX5_readAtom_104 (by decide) (fun r104 e104_z => ?_)
      refine r_istore2 dX5_readAtom_105 rfl ?_
      refine r_iload2 dX5_readAtom_106 ?_
      refine t_ifne (t := 115) dX5_readAtom_107 (by decide) (fun h107 => False.elim (by omega)) (fun h107 => ?_)
      refine r_aloadR0 dX5_readAtom_110 ?_
      refine q_callV0 zm_RX5_80 dX5_readAtom_111 hr.1 (by decide) rfl (Nat.le_of_ble_eq_true rfl) (Nat.le_of_ble_eq_true rfl) (Nat.le_of_ble_eq_true rfl) (Nat.le_of_ble_eq_true rfl) (Nat.le_of_ble_eq_true rfl) (s_X5_refuseToken G hr htk (fun r111 g111 e111_z o111 l111 => ?_))
      refine m_zret dX5_readAtom_114 rfl (by omega) (Nat.le_of_ble_eq_true rfl) (Nat.le_of_ble_eq_true rfl) ?_
      exact hQ _ _ g111 (frM_su o111 (by decide) (by decide)) (fun h_z => absurd h_z hba.1) (fun _ => ⟨e111_z, l111⟩)
    · have n1 : (fcI (wdP B n p)).toInt ≠ -1 := fun h_z => h8 (f1_z.mp h_z)
      have h5l : lm ≠ 5 := fun h_z => hf ⟨h3, by rw [if_pos h_z]; omega⟩
      rw [if_neg h5l] at hol
      have hna : wdP B n p = 2 ∨ wdP B n p = 15 := Decidable.byContradiction (fun h_z => hf ⟨h3, by rw [if_neg h5l]; exact (f3_z (by omega)).mpr h_z⟩)
      refine r_aloadR0 dX5_readAtom_0 ?_
      refine m_getV (x := (f A 4)) zf_RX5_25 rfl dX5_readAtom_1 hr.1 (rfl) ?_
      refine n_bipush dX5_readAtom_4 (by decide) (fun r4 e4_z => ?_)
      refine t_icne (t := 42) dX5_readAtom_6 (by decide) (fun h6 => ?_) (fun h6 => False.elim (by omega))
      refine r_aloadR0 dX5_readAtom_42 ?_
      refine m_getV (x := (f A 4)) zf_RX5_25 rfl dX5_readAtom_43 hr.1 (rfl) ?_
      refine n_iconst dX5_readAtom_46 (by decide) (fun r46 e46 => ?_)
      refine t_icne (t := 64) dX5_readAtom_47 (by decide) (fun h47 => ?_) (fun h47 => False.elim (by omega))
      refine r_aloadR0 dX5_readAtom_64 ?_
      refine m_getV (x := (f A 4)) zf_RX5_25 rfl dX5_readAtom_65 hr.1 (rfl) ?_
      refine n_iconst dX5_readAtom_68 (by decide) (fun r68 e68 => ?_)
      refine t_icne (t := 104) dX5_readAtom_69 (by decide) (fun h69 => False.elim (by omega)) (fun h69 => ?_)
      refine r_aloadR0 dX5_readAtom_72 ?_
      refine m_getR (q := (ca (wdP B n p))) zf_RX5_37 rfl dX5_readAtom_73 hr.1 (zu_at.trans hv3) ?_
      refine k_getf (fun U hU => (ko.2.2.2.2.1 _ (Nat.lt_succ_of_le wd_le) U hU).2.2.1) zg_RX5_197 dX5_readAtom_76 ?_
      refine n_iconst dX5_readAtom_79 (by decide) (fun r79 e79 => ?_)
      refine t_iceq (t := 104) dX5_readAtom_80 (by decide) (fun h80 => False.elim (by omega)) (fun h80 => ?_)
      refine r_aloadR0 dX5_readAtom_83 ?_
      refine m_getV (x := (f A 10)) zf_RX5_54 rfl dX5_readAtom_84 hr.1 (rfl) ?_
      refine t_ifne (t := 100) dX5_readAtom_87 (by decide) (fun h87 => False.elim (by omega)) (fun h87 => ?_)
      refine r_aloadR0 dX5_readAtom_90 ?_
      refine m_getR (q := (ca (wdP B n p))) zf_RX5_37 rfl dX5_readAtom_91 hr.1 (zu_at.trans hv3) ?_
      refine k_callV0 zm_RX5_200 dX5_readAtom_94 (fun U hU => (ko.2.2.2.2.1 _ (Nat.lt_succ_of_le wd_le) U hU).1) (Nat.le_of_ble_eq_true rfl) (Nat.le_of_ble_eq_true rfl) (Nat.le_of_ble_eq_true rfl) (Nat.le_of_ble_eq_true rfl) (Nat.le_of_ble_eq_true rfl) (s_X10_isOfLikesAlone (i := wdP B n p) G kw ko (by omega) (fun r94 e94_z => ?_))
      refine t_ifne (t := 104) dX5_readAtom_97 (by decide) (fun h97 => ?_) (fun h97 => False.elim (e94_z.elim (fun h_z => by omega) (fun h_z => h_z.2 hna)))
      refine n_iconst dX5_readAtom_104 (by decide) (fun r104 e104_z => ?_)
      refine r_istore2 dX5_readAtom_105 rfl ?_
      refine r_iload2 dX5_readAtom_106 ?_
      refine t_ifne (t := 115) dX5_readAtom_107 (by decide) (fun h107 => False.elim (by omega)) (fun h107 => ?_)
      refine r_aloadR0 dX5_readAtom_110 ?_
      refine q_callV0 zm_RX5_80 dX5_readAtom_111 hr.1 (by decide) rfl (Nat.le_of_ble_eq_true rfl) (Nat.le_of_ble_eq_true rfl) (Nat.le_of_ble_eq_true rfl) (Nat.le_of_ble_eq_true rfl) (Nat.le_of_ble_eq_true rfl) (s_X5_refuseToken G hr htk (fun r111 g111 e111_z o111 l111 => ?_))
      refine m_zret dX5_readAtom_114 rfl (by omega) (Nat.le_of_ble_eq_true rfl) (Nat.le_of_ble_eq_true rfl) ?_
      exact hQ _ _ g111 (frM_su o111 (by decide) (by decide)) (fun h_z => absurd h_z hba.1) (fun _ => ⟨e111_z, l111⟩)
  refine r_aloadR0 dX5_readAtom_0 ?_
  refine m_getV (x := (f A 4)) zf_RX5_25 rfl dX5_readAtom_1 hr.1 (rfl) ?_
  refine n_bipush dX5_readAtom_4 (by decide) (fun r4 e4_z => ?_)
  refine t_icne (t := 42) dX5_readAtom_6 (by decide) (fun h6 => ?_) (fun h6 => False.elim (by omega))
  refine r_aloadR0 dX5_readAtom_42 ?_
  refine m_getV (x := (f A 4)) zf_RX5_25 rfl dX5_readAtom_43 hr.1 (rfl) ?_
  refine n_iconst dX5_readAtom_46 (by decide) (fun r46 e46 => ?_)
  refine t_icne (t := 64) dX5_readAtom_47 (by decide) (fun h47 => ?_) (fun h47 => False.elim (by omega))
  refine r_aloadR0 dX5_readAtom_64 ?_
  refine m_getV (x := (f A 4)) zf_RX5_25 rfl dX5_readAtom_65 hr.1 (rfl) ?_
  refine n_iconst dX5_readAtom_68 (by decide) (fun r68 e68 => ?_)
  refine t_icne (t := 104) dX5_readAtom_69 (by decide) (fun h69 => ?_) (fun h69 => False.elim (by omega))
  refine n_iconst dX5_readAtom_104 (by decide) (fun r104 e104_z => ?_)
  refine r_istore2 dX5_readAtom_105 rfl ?_
  refine r_iload2 dX5_readAtom_106 ?_
  refine t_ifne (t := 115) dX5_readAtom_107 (by decide) (fun h107 => False.elim (by omega)) (fun h107 => ?_)
  refine r_aloadR0 dX5_readAtom_110 ?_
  refine q_callV0 zm_RX5_80 dX5_readAtom_111 hr.1 (by decide) rfl (Nat.le_of_ble_eq_true rfl) (Nat.le_of_ble_eq_true rfl) (Nat.le_of_ble_eq_true rfl) (Nat.le_of_ble_eq_true rfl) (Nat.le_of_ble_eq_true rfl) (s_X5_refuseToken G hr htk (fun r111 g111 e111_z o111 l111 => ?_))
  refine m_zret dX5_readAtom_114 rfl (by omega) (Nat.le_of_ble_eq_true rfl) (Nat.le_of_ble_eq_true rfl) ?_
  exact hQ _ _ g111 (frM_su o111 (by decide) (by decide)) (fun h_z => absurd h_z hba.1) (fun _ => ⟨e111_z, l111⟩)
set_option maxHeartbeats 4000000 in
set_option maxRecDepth 100000 in
theorem s_X5_readTerm_3 {g : zGT} {w : zW} {f : Nat → Nat → Int32} {j : Nat → Nat → Int64} {A tq nq : Nat} {v : Option Nat} {B : Nat → Nat} {n : Nat} {ca wa wv : Nat → Nat} {kq ta sm gq gv : Nat} {p lm u : Nat} {x : Int32} {Q : Option Value → zW → Prop} {QX : String → zW → Prop} (G : zGok g) (hr : shRd w A tq nq) (kw : kWd g wa wv kq) (ko : kWo g ca wa wv ta sm gq gv) (htp : tpR B n f A tq) (htk : tkR ca B n f v A p) (hx : x.toInt = 3) (hol : (f A 10).toInt = if lm = 5 then 1 else 0) (hu : (f A 9).toInt = (u : Nat)) (hup : u ≤ p) (hQ : ∀ (b : Int32) v2 f2_z, frM A [8] [2, 3, 4, 5, 9, 11, 12] f f2_z → ((chP B n (atP B n (if lm = 5 then 8 else 6) 3) (opT B n) p).1 = 0 → b.toInt = 1 ∧ tkR ca B n f2_z v2 A (chP B n (atP B n (if lm = 5 then 8 else 6) 3) (opT B n) p).2.1 ∧ okR f f2_z A u (chP B n (atP B n (if lm = 5 then 8 else 6) 3) (opT B n) p).2.2) → ((chP B n (atP B n (if lm = 5 then 8 else 6) 3) (opT B n) p).1 ≠ 0 → b.toInt = 0 ∧ flR f2_z A (chP B n (atP B n (if lm = 5 then 8 else 6) 3) (opT B n) p).1 (chP B n (atP B n (if lm = 5 then 8 else 6) 3) (opT B n) p).2.1) → Q (some (.int b)) (zM (wW w A v2) f2_z j)) : zC g 23 yX5_readTerm cX5_readTerm 3 (some .boolean) [.ref A, .int x] (zM (wW w A v) f j) (0, 0) Q QX := by
  refine zC_of G (by decide +kernel) (Nat.le_of_ble_eq_true rfl) ?_
  have ht := hr.2.2.2.2.2.2
  have h4 := htk.2.2.2.1
  have hpn := htk.1
  have h900 := htp.2.1
  have hgd : ∀ s, s ≤ n → gdP n false (if lm = 5 then 8 else 6) (1 + 2 * 3) s ((atP B n (if lm = 5 then 8 else 6) 3) s) := gd_at (by split <;> decide) 3
  have lp : ∀ (mz : Nat) (uu : Int32) (i : Nat) (k : Nat) (ps : Nat) (c : List Nat) (f2_z : Nat → Nat → Int32) (vv : Option Nat), uu.toInt = (i : Nat) → frM A [8] [2, 3, 4, 5, 9, 11, 12] f f2_z → tkR ca B n f2_z vv A ps → okR f f2_z A u c → p + i < ps → ps ≤ n → c.length + p ≤ ps → n ≤ k + ps → lpP B n (atP B n (if lm = 5 then 8 else 6) 3) (opT B n) k (0, ps, c) = chP B n (atP B n (if lm = 5 then 8 else 6) 3) (opT B n) p → k < mz → zR (zV g 23 yX5_readTerm 3 (some .boolean) (0, 0) Q QX) cX5_readTerm yX5_readTerm.cls 12 [some (.ref A), some (.int x), some (.int uu)] [] (zM (wW w A vv) f2_z j) (0, 0) := by
    intro mz
    induction mz with
    | zero =>
      intro uu i k ps c f2_z vv hui ofr htk2 hok hpi hps hcl hnk hR hmz
      exact absurd hmz (Nat.not_lt_zero _)
    | succ mz ih =>
      intro uu i k ps c f2_z vv hui ofr htk2 hok hpi hps hcl hnk hR hmz
      have htp2 := tpR_of htp ht ofr (by decide)
      have h1 := htp2.1
      have htk4 := htk2.2.2.2.1
      have hi9 : i < n := by omega
      by_cases hc_z : tkP B n ps = 42
      · have hop : (opT B n) ps = 2005 := if_pos hc_z
        have hop0 : (opT B n) ps ≠ 0 := by rw [hop]; decide
        have hln := tk_lt (B := B) (n := n) (s := ps) (by rw [hc_z]; decide)
        obtain ⟨k2_z, rfl⟩ : ∃ k2_z, k = k2_z + 1 := ⟨k - 1, by omega⟩
        have hnx := nxP_gt (B := B) hln
        have gq := hgd _ hnx.2
        by_cases hq : ((atP B n (if lm = 5 then 8 else 6) 3) (nxP B n ps)).1 = 0
        · obtain ⟨y1, y2, y3, y4⟩ := gq.1 hq
          refine r_iload2 dX5_readTerm_12 ?_
          refine r_aloadR0 dX5_readTerm_13 ?_
          refine m_getV (x := (f2_z A 1)) zf_RX5_15 rfl dX5_readTerm_14 hr.1 (rfl) ?_
          refine t_icge (t := 56) dX5_readTerm_17 (by decide) (fun h17 => False.elim (by omega)) (fun h17 => ?_)
          refine r_aloadR0 dX5_readTerm_20 ?_
          refine m_getV (x := (f2_z A 4)) zf_RX5_25 rfl dX5_readTerm_21 hr.1 (rfl) ?_
          refine n_bipush dX5_readTerm_24 (by decide) (fun r24 e24_z => ?_)
          refine t_icne (t := 56) dX5_readTerm_26 (by decide) (fun h26 => False.elim (by omega)) (fun h26 => ?_)
          refine r_aloadR0 dX5_readTerm_29 ?_
          refine q_callV0 zm_RX5_73 dX5_readTerm_30 hr.1 (by decide) rfl (Nat.le_of_ble_eq_true rfl) (Nat.le_of_ble_eq_true rfl) (Nat.le_of_ble_eq_true rfl) (Nat.le_of_ble_eq_true rfl) (Nat.le_of_ble_eq_true rfl) (s_X5_next (p := teP B n ps) G hr kw ko htp2 htk2.2.1 (teP_le htk2.1) htk2.2.2.2.2.2.2 (fun v30 g30 o30 t30 => ?_))
          have t30 : tkR ca B n g30 v30 A (nxP B n ps) := t30
          have htpn := tpR_of htp2 ht o30 (by decide)
          have wn : g30 (A + 8) = f2_z (A + 8) := o30.2.1 8 (by decide) (by decide) (by decide)
          refine r_aloadR0 dX5_readTerm_33 ?_
          refine r_iload1 dX5_readTerm_34 ?_
          refine q_callV1 zm_RX5_194 dX5_readTerm_35 hr.1 (by decide) rfl (Nat.le_of_ble_eq_true rfl) (Nat.le_of_ble_eq_true rfl) (Nat.le_of_ble_eq_true rfl) (Nat.le_of_ble_eq_true rfl) (Nat.le_of_ble_eq_true rfl) (s_X5_readAtom_3 (lm := lm) (u := u + c.length) G hr kw ko htpn t30 hx (by rw [o30.2.2 10 (by decide), ofr.2.2 10 (by decide)]; exact hol) (by rw [o30.2.2 9 (by decide)]; exact hok.1) (by omega) (fun rs vs gs os as bs => ?_))
          have as2 : ((atP B n (if lm = 5 then 8 else 6) 3) (nxP B n ps)).1 = 0 → rs.toInt = 1 ∧ tkR ca B n gs vs A ((atP B n (if lm = 5 then 8 else 6) 3) (nxP B n ps)).2.1 ∧ okR g30 gs A (u + c.length) ((atP B n (if lm = 5 then 8 else 6) 3) (nxP B n ps)).2.2 := as
          have bs2 : ((atP B n (if lm = 5 then 8 else 6) 3) (nxP B n ps)).1 ≠ 0 → rs.toInt = 0 ∧ flR gs A ((atP B n (if lm = 5 then 8 else 6) 3) (nxP B n ps)).1 ((atP B n (if lm = 5 then 8 else 6) 3) (nxP B n ps)).2.1 := bs
          have ofs : frM A [8] [2, 3, 4, 5, 9, 11, 12] f gs := frM_tr ofr (frM_tr (frM_su o30 (by decide) (by decide)) os)
          obtain ⟨cs, ts, ks⟩ := as2 hq
          refine t_ifne (t := 43) dX5_readTerm_38 (by decide) (fun h38 => ?_) (fun h38 => False.elim (by omega))
          refine r_aloadR0 dX5_readTerm_43 ?_
          refine n_sipush dX5_readTerm_44 (by decide) (fun r44 e44 => ?_)
          refine q_callV1 zm_RX5_173 dX5_readTerm_47 hr.1 (by decide) rfl (Nat.le_of_ble_eq_true rfl) (Nat.le_of_ble_eq_true rfl) (Nat.le_of_ble_eq_true rfl) (Nat.le_of_ble_eq_true rfl) (Nat.le_of_ble_eq_true rfl) (s_X5_emit (u := u + c.length + ((atP B n (if lm = 5 then 8 else 6) 3) (nxP B n ps)).2.2.length) G hr ks.1 (by omega) (fun g47 o47 a47 b47 c47 => ?_))
          refine n_iinc2 dX5_readTerm_50 (by decide) rfl (by omega) (fun r50 e50 => ?_)
          refine r_goto (t := 12) dX5_readTerm_53 (by decide) ?_
          refine ih _ (i + 1) k2_z ((atP B n (if lm = 5 then 8 else 6) 3) (nxP B n ps)).2.1 (c ++ ((atP B n (if lm = 5 then 8 else 6) 3) (nxP B n ps)).2.2 ++ [(opT B n) ps]) g47 _ (by omega) (frM_tr ofs (frM_su o47 (by decide) (by decide))) (tkR_of ts o47 (by decide) (by decide) (by decide) (by decide)) (okR_ap (okR_ap hok (okR_cg ks wn rfl rfl)) ?_) (by omega) y2 ?_ (by omega) ?_ (by omega)
          · rw [List.length_append, ← Nat.add_assoc, hop]
            exact okR_one a47 b47 c47 (by omega)
          · rw [List.length_append, List.length_append, List.length_singleton]
            omega
          · exact (lpP_on (r := (0, ps, c)) rfl hop0 hq).symm.trans hR
        · have hv : ((atP B n (if lm = 5 then 8 else 6) 3) (nxP B n ps)) = chP B n (atP B n (if lm = 5 then 8 else 6) 3) (opT B n) p := (lpP_sub (k := k2_z) (r := (0, ps, c)) rfl hop0 hq).symm.trans hR
          refine r_iload2 dX5_readTerm_12 ?_
          refine r_aloadR0 dX5_readTerm_13 ?_
          refine m_getV (x := (f2_z A 1)) zf_RX5_15 rfl dX5_readTerm_14 hr.1 (rfl) ?_
          refine t_icge (t := 56) dX5_readTerm_17 (by decide) (fun h17 => False.elim (by omega)) (fun h17 => ?_)
          refine r_aloadR0 dX5_readTerm_20 ?_
          refine m_getV (x := (f2_z A 4)) zf_RX5_25 rfl dX5_readTerm_21 hr.1 (rfl) ?_
          refine n_bipush dX5_readTerm_24 (by decide) (fun r24 e24_z => ?_)
          refine t_icne (t := 56) dX5_readTerm_26 (by decide) (fun h26 => False.elim (by omega)) (fun h26 => ?_)
          refine r_aloadR0 dX5_readTerm_29 ?_
          refine q_callV0 zm_RX5_73 dX5_readTerm_30 hr.1 (by decide) rfl (Nat.le_of_ble_eq_true rfl) (Nat.le_of_ble_eq_true rfl) (Nat.le_of_ble_eq_true rfl) (Nat.le_of_ble_eq_true rfl) (Nat.le_of_ble_eq_true rfl) (s_X5_next (p := teP B n ps) G hr kw ko htp2 htk2.2.1 (teP_le htk2.1) htk2.2.2.2.2.2.2 (fun v30 g30 o30 t30 => ?_))
          have t30 : tkR ca B n g30 v30 A (nxP B n ps) := t30
          have htpn := tpR_of htp2 ht o30 (by decide)
          have wn : g30 (A + 8) = f2_z (A + 8) := o30.2.1 8 (by decide) (by decide) (by decide)
          refine r_aloadR0 dX5_readTerm_33 ?_
          refine r_iload1 dX5_readTerm_34 ?_
          refine q_callV1 zm_RX5_194 dX5_readTerm_35 hr.1 (by decide) rfl (Nat.le_of_ble_eq_true rfl) (Nat.le_of_ble_eq_true rfl) (Nat.le_of_ble_eq_true rfl) (Nat.le_of_ble_eq_true rfl) (Nat.le_of_ble_eq_true rfl) (s_X5_readAtom_3 (lm := lm) (u := u + c.length) G hr kw ko htpn t30 hx (by rw [o30.2.2 10 (by decide), ofr.2.2 10 (by decide)]; exact hol) (by rw [o30.2.2 9 (by decide)]; exact hok.1) (by omega) (fun rs vs gs os as bs => ?_))
          have as2 : ((atP B n (if lm = 5 then 8 else 6) 3) (nxP B n ps)).1 = 0 → rs.toInt = 1 ∧ tkR ca B n gs vs A ((atP B n (if lm = 5 then 8 else 6) 3) (nxP B n ps)).2.1 ∧ okR g30 gs A (u + c.length) ((atP B n (if lm = 5 then 8 else 6) 3) (nxP B n ps)).2.2 := as
          have bs2 : ((atP B n (if lm = 5 then 8 else 6) 3) (nxP B n ps)).1 ≠ 0 → rs.toInt = 0 ∧ flR gs A ((atP B n (if lm = 5 then 8 else 6) 3) (nxP B n ps)).1 ((atP B n (if lm = 5 then 8 else 6) 3) (nxP B n ps)).2.1 := bs
          have ofs : frM A [8] [2, 3, 4, 5, 9, 11, 12] f gs := frM_tr ofr (frM_tr (frM_su o30 (by decide) (by decide)) os)
          obtain ⟨cs, ls⟩ := bs2 hq
          refine t_ifne (t := 43) dX5_readTerm_38 (by decide) (fun h38 => False.elim (by omega)) (fun h38 => ?_)
          refine n_iconst dX5_readTerm_41 (by decide) (fun r41 e41_z => ?_)
          refine m_zret dX5_readTerm_42 rfl (by omega) (Nat.le_of_ble_eq_true rfl) (Nat.le_of_ble_eq_true rfl) ?_
          rw [← hv] at hQ
          exact hQ _ _ gs ofs (fun h_z => absurd h_z hq) (fun _ => ⟨e41_z, ls⟩)
      have hop : (opT B n) ps = 0 := if_neg hc_z
      have hv := (lpP_end (B := B) (n := n) (k := k) (sub := (atP B n (if lm = 5 then 8 else 6) 3)) (r := (0, ps, c)) hop).symm.trans hR
      refine r_iload2 dX5_readTerm_12 ?_
      refine r_aloadR0 dX5_readTerm_13 ?_
      refine m_getV (x := (f2_z A 1)) zf_RX5_15 rfl dX5_readTerm_14 hr.1 (rfl) ?_
      refine t_icge (t := 56) dX5_readTerm_17 (by decide) (fun h17 => False.elim (by omega)) (fun h17 => ?_)
      refine r_aloadR0 dX5_readTerm_20 ?_
      refine m_getV (x := (f2_z A 4)) zf_RX5_25 rfl dX5_readTerm_21 hr.1 (rfl) ?_
      refine n_bipush dX5_readTerm_24 (by decide) (fun r24 e24_z => ?_)
      refine t_icne (t := 56) dX5_readTerm_26 (by decide) (fun h26 => ?_) (fun h26 => False.elim (by omega))
      refine n_iconst dX5_readTerm_56 (by decide) (fun r56 e56 => ?_)
      refine m_zret dX5_readTerm_57 rfl (by omega) (Nat.le_of_ble_eq_true rfl) (Nat.le_of_ble_eq_true rfl) ?_
      rw [← hv] at hQ
      exact hQ _ _ f2_z ofr (fun _ => ⟨e56, htk2, hok⟩) (fun h_z => absurd rfl h_z)
  have gp := hgd p hpn
  by_cases hq : ((atP B n (if lm = 5 then 8 else 6) 3) p).1 = 0
  · obtain ⟨y1, y2, y3, y4⟩ := gp.1 hq
    have hz : ((atP B n (if lm = 5 then 8 else 6) 3) p) = (0, ((atP B n (if lm = 5 then 8 else 6) 3) p).2.1, ((atP B n (if lm = 5 then 8 else 6) 3) p).2.2) := Prod.ext hq rfl
    refine r_aloadR0 dX5_readTerm_0 ?_
    refine r_iload1 dX5_readTerm_1 ?_
    refine q_callV1 zm_RX5_194 dX5_readTerm_2 hr.1 (by decide) rfl (Nat.le_of_ble_eq_true rfl) (Nat.le_of_ble_eq_true rfl) (Nat.le_of_ble_eq_true rfl) (Nat.le_of_ble_eq_true rfl) (Nat.le_of_ble_eq_true rfl) (s_X5_readAtom_3 G hr kw ko htp htk hx hol hu hup (fun r2 v2 g2 o2 a2 b2 => ?_))
    have a2b : ((atP B n (if lm = 5 then 8 else 6) 3) p).1 = 0 → r2.toInt = 1 ∧ tkR ca B n g2 v2 A ((atP B n (if lm = 5 then 8 else 6) 3) p).2.1 ∧ okR f g2 A u ((atP B n (if lm = 5 then 8 else 6) 3) p).2.2 := a2
    have b2b : ((atP B n (if lm = 5 then 8 else 6) 3) p).1 ≠ 0 → r2.toInt = 0 ∧ flR g2 A ((atP B n (if lm = 5 then 8 else 6) 3) p).1 ((atP B n (if lm = 5 then 8 else 6) 3) p).2.1 := b2
    obtain ⟨c2_z, t2, k2_z⟩ := a2b hq
    refine t_ifne (t := 10) dX5_readTerm_5 (by decide) (fun h5 => ?_) (fun h5 => False.elim (by omega))
    refine n_iconst dX5_readTerm_10 (by decide) (fun r10 e10_z => ?_)
    refine r_istore2 dX5_readTerm_11 rfl ?_
    exact lp (n + 1) _ 0 n ((atP B n (if lm = 5 then 8 else 6) 3) p).2.1 ((atP B n (if lm = 5 then 8 else 6) 3) p).2.2 g2 _ (by omega) o2 t2 k2_z (by omega) y2 y3 (by omega) (by rw [← hz]; rfl) (Nat.lt_succ_self n)
  · have hv : chP B n (atP B n (if lm = 5 then 8 else 6) 3) (opT B n) p = ((atP B n (if lm = 5 then 8 else 6) 3) p) := lpP_bad hq
    rw [hv] at hQ
    refine r_aloadR0 dX5_readTerm_0 ?_
    refine r_iload1 dX5_readTerm_1 ?_
    refine q_callV1 zm_RX5_194 dX5_readTerm_2 hr.1 (by decide) rfl (Nat.le_of_ble_eq_true rfl) (Nat.le_of_ble_eq_true rfl) (Nat.le_of_ble_eq_true rfl) (Nat.le_of_ble_eq_true rfl) (Nat.le_of_ble_eq_true rfl) (s_X5_readAtom_3 G hr kw ko htp htk hx hol hu hup (fun r2 v2 g2 o2 a2 b2 => ?_))
    have a2b : ((atP B n (if lm = 5 then 8 else 6) 3) p).1 = 0 → r2.toInt = 1 ∧ tkR ca B n g2 v2 A ((atP B n (if lm = 5 then 8 else 6) 3) p).2.1 ∧ okR f g2 A u ((atP B n (if lm = 5 then 8 else 6) 3) p).2.2 := a2
    have b2b : ((atP B n (if lm = 5 then 8 else 6) 3) p).1 ≠ 0 → r2.toInt = 0 ∧ flR g2 A ((atP B n (if lm = 5 then 8 else 6) 3) p).1 ((atP B n (if lm = 5 then 8 else 6) 3) p).2.1 := b2
    obtain ⟨c2_z, l2⟩ := b2b hq
    refine t_ifne (t := 10) dX5_readTerm_5 (by decide) (fun h5 => False.elim (by omega)) (fun h5 => ?_)
    refine n_iconst dX5_readTerm_8 (by decide) (fun r8 e8 => ?_)
    refine m_zret dX5_readTerm_9 rfl (by omega) (Nat.le_of_ble_eq_true rfl) (Nat.le_of_ble_eq_true rfl) ?_
    exact hQ _ _ g2 o2 (fun h_z => absurd h_z hq) (fun _ => ⟨e8, l2⟩)
set_option maxHeartbeats 4000000 in
set_option maxRecDepth 100000 in
theorem s_X5_readSum_3 {g : zGT} {w : zW} {f : Nat → Nat → Int32} {j : Nat → Nat → Int64} {A tq nq : Nat} {v : Option Nat} {B : Nat → Nat} {n : Nat} {ca wa wv : Nat → Nat} {kq ta sm gq gv : Nat} {p lm u : Nat} {x : Int32} {Q : Option Value → zW → Prop} {QX : String → zW → Prop} (G : zGok g) (hr : shRd w A tq nq) (kw : kWd g wa wv kq) (ko : kWo g ca wa wv ta sm gq gv) (htp : tpR B n f A tq) (htk : tkR ca B n f v A p) (hx : x.toInt = 3) (hol : (f A 10).toInt = if lm = 5 then 1 else 0) (hu : (f A 9).toInt = (u : Nat)) (hup : u ≤ p) (hQ : ∀ (b : Int32) v2 f2_z, frM A [8] [2, 3, 4, 5, 9, 11, 12] f f2_z → ((chP B n (chP B n (atP B n (if lm = 5 then 8 else 6) 3) (opT B n)) (opS B n) p).1 = 0 → b.toInt = 1 ∧ tkR ca B n f2_z v2 A (chP B n (chP B n (atP B n (if lm = 5 then 8 else 6) 3) (opT B n)) (opS B n) p).2.1 ∧ okR f f2_z A u (chP B n (chP B n (atP B n (if lm = 5 then 8 else 6) 3) (opT B n)) (opS B n) p).2.2) → ((chP B n (chP B n (atP B n (if lm = 5 then 8 else 6) 3) (opT B n)) (opS B n) p).1 ≠ 0 → b.toInt = 0 ∧ flR f2_z A (chP B n (chP B n (atP B n (if lm = 5 then 8 else 6) 3) (opT B n)) (opS B n) p).1 (chP B n (chP B n (atP B n (if lm = 5 then 8 else 6) 3) (opT B n)) (opS B n) p).2.1) → Q (some (.int b)) (zM (wW w A v2) f2_z j)) : zC g 24 yX5_readSum cX5_readSum 4 (some .boolean) [.ref A, .int x] (zM (wW w A v) f j) (0, 0) Q QX := by
  refine zC_of G (by decide +kernel) (Nat.le_of_ble_eq_true rfl) ?_
  have ht := hr.2.2.2.2.2.2
  have h4 := htk.2.2.2.1
  have hpn := htk.1
  have h900 := htp.2.1
  have hgd : ∀ s, s ≤ n → gdP n false (if lm = 5 then 8 else 6) (1 + 2 * 3 + 1) s ((chP B n (atP B n (if lm = 5 then 8 else 6) 3) (opT B n)) s) := fun s hs9 => gd_ch (gd_at (by split <;> decide) 3) hop_T hs9
  have lp : ∀ (mz : Nat) (uu : Int32) (i : Nat) (k : Nat) (ps : Nat) (c : List Nat) (f2_z : Nat → Nat → Int32) (vv : Option Nat) (v3_ : Option Value), uu.toInt = (i : Nat) → frM A [8] [2, 3, 4, 5, 9, 11, 12] f f2_z → tkR ca B n f2_z vv A ps → okR f f2_z A u c → p + i < ps → ps ≤ n → c.length + p ≤ ps → n ≤ k + ps → lpP B n (chP B n (atP B n (if lm = 5 then 8 else 6) 3) (opT B n)) (opS B n) k (0, ps, c) = chP B n (chP B n (atP B n (if lm = 5 then 8 else 6) 3) (opT B n)) (opS B n) p → k < mz → zR (zV g 24 yX5_readSum 4 (some .boolean) (0, 0) Q QX) cX5_readSum yX5_readSum.cls 12 [some (.ref A), some (.int x), some (.int uu), v3_] [] (zM (wW w A vv) f2_z j) (0, 0) := by
    intro mz
    induction mz with
    | zero =>
      intro uu i k ps c f2_z vv v3_ hui ofr htk2 hok hpi hps hcl hnk hR hmz
      exact absurd hmz (Nat.not_lt_zero _)
    | succ mz ih =>
      intro uu i k ps c f2_z vv v3_ hui ofr htk2 hok hpi hps hcl hnk hR hmz
      have htp2 := tpR_of htp ht ofr (by decide)
      have h1 := htp2.1
      have htk4 := htk2.2.2.2.1
      have hi9 : i < n := by omega
      by_cases hc_z : tkP B n ps = 43
      · have hop : (opS B n) ps = 2003 := if_pos hc_z
        have hop0 : (opS B n) ps ≠ 0 := by rw [hop]; decide
        have hln := tk_lt (B := B) (n := n) (s := ps) (by rw [hc_z]; decide)
        obtain ⟨k2_z, rfl⟩ : ∃ k2_z, k = k2_z + 1 := ⟨k - 1, by omega⟩
        have hnx := nxP_gt (B := B) hln
        have gq := hgd _ hnx.2
        by_cases hq : ((chP B n (atP B n (if lm = 5 then 8 else 6) 3) (opT B n)) (nxP B n ps)).1 = 0
        · obtain ⟨y1, y2, y3, y4⟩ := gq.1 hq
          refine r_iload2 dX5_readSum_12 ?_
          refine r_aloadR0 dX5_readSum_13 ?_
          refine m_getV (x := (f2_z A 1)) zf_RX5_15 rfl dX5_readSum_14 hr.1 (rfl) ?_
          refine t_icge (t := 82) dX5_readSum_17 (by decide) (fun h17 => False.elim (by omega)) (fun h17 => ?_)
          refine r_aloadR0 dX5_readSum_20 ?_
          refine m_getV (x := (f2_z A 4)) zf_RX5_25 rfl dX5_readSum_21 hr.1 (rfl) ?_
          refine n_bipush dX5_readSum_24 (by decide) (fun r24 e24_z => ?_)
          refine t_iceq (t := 38) dX5_readSum_26 (by decide) (fun h26 => ?_) (fun h26 => False.elim (by omega))
          refine r_aloadR0 dX5_readSum_38 ?_
          refine m_getV (x := (f2_z A 4)) zf_RX5_25 rfl dX5_readSum_39 hr.1 (rfl) ?_
          refine n_bipush dX5_readSum_42 (by decide) (fun r42 e42_z => ?_)
          refine t_icne (t := 53) dX5_readSum_44 (by decide) (fun h44 => False.elim (by omega)) (fun h44 => ?_)
          refine n_sipush dX5_readSum_47 (by decide) (fun r47 e47 => ?_)
          refine r_goto (t := 56) dX5_readSum_50 (by decide) ?_
          refine r_istore3 dX5_readSum_56 rfl ?_
          refine r_aloadR0 dX5_readSum_57 ?_
          refine q_callV0 zm_RX5_73 dX5_readSum_58 hr.1 (by decide) rfl (Nat.le_of_ble_eq_true rfl) (Nat.le_of_ble_eq_true rfl) (Nat.le_of_ble_eq_true rfl) (Nat.le_of_ble_eq_true rfl) (Nat.le_of_ble_eq_true rfl) (s_X5_next (p := teP B n ps) G hr kw ko htp2 htk2.2.1 (teP_le htk2.1) htk2.2.2.2.2.2.2 (fun v58 g58 o58 t58 => ?_))
          have t58 : tkR ca B n g58 v58 A (nxP B n ps) := t58
          have htpn := tpR_of htp2 ht o58 (by decide)
          have wn : g58 (A + 8) = f2_z (A + 8) := o58.2.1 8 (by decide) (by decide) (by decide)
          refine r_aloadR0 dX5_readSum_61 ?_
          refine r_iload1 dX5_readSum_62 ?_
          refine q_callV1 zm_RX5_191 dX5_readSum_63 hr.1 (by decide) rfl (Nat.le_of_ble_eq_true rfl) (Nat.le_of_ble_eq_true rfl) (Nat.le_of_ble_eq_true rfl) (Nat.le_of_ble_eq_true rfl) (Nat.le_of_ble_eq_true rfl) (s_X5_readTerm_3 (lm := lm) (u := u + c.length) G hr kw ko htpn t58 hx (by rw [o58.2.2 10 (by decide), ofr.2.2 10 (by decide)]; exact hol) (by rw [o58.2.2 9 (by decide)]; exact hok.1) (by omega) (fun rs vs gs os as bs => ?_))
          have as2 : ((chP B n (atP B n (if lm = 5 then 8 else 6) 3) (opT B n)) (nxP B n ps)).1 = 0 → rs.toInt = 1 ∧ tkR ca B n gs vs A ((chP B n (atP B n (if lm = 5 then 8 else 6) 3) (opT B n)) (nxP B n ps)).2.1 ∧ okR g58 gs A (u + c.length) ((chP B n (atP B n (if lm = 5 then 8 else 6) 3) (opT B n)) (nxP B n ps)).2.2 := as
          have bs2 : ((chP B n (atP B n (if lm = 5 then 8 else 6) 3) (opT B n)) (nxP B n ps)).1 ≠ 0 → rs.toInt = 0 ∧ flR gs A ((chP B n (atP B n (if lm = 5 then 8 else 6) 3) (opT B n)) (nxP B n ps)).1 ((chP B n (atP B n (if lm = 5 then 8 else 6) 3) (opT B n)) (nxP B n ps)).2.1 := bs
          have ofs : frM A [8] [2, 3, 4, 5, 9, 11, 12] f gs := frM_tr ofr (frM_tr (frM_su o58 (by decide) (by decide)) os)
          obtain ⟨cs, ts, ks⟩ := as2 hq
          refine t_ifne (t := 71) dX5_readSum_66 (by decide) (fun h66 => ?_) (fun h66 => False.elim (by omega))
          refine r_aloadR0 dX5_readSum_71 ?_
          refine r_iload3 dX5_readSum_72 ?_
          refine q_callV1 zm_RX5_173 dX5_readSum_73 hr.1 (by decide) rfl (Nat.le_of_ble_eq_true rfl) (Nat.le_of_ble_eq_true rfl) (Nat.le_of_ble_eq_true rfl) (Nat.le_of_ble_eq_true rfl) (Nat.le_of_ble_eq_true rfl) (s_X5_emit (u := u + c.length + ((chP B n (atP B n (if lm = 5 then 8 else 6) 3) (opT B n)) (nxP B n ps)).2.2.length) G hr ks.1 (by omega) (fun g73 o73 a73 b73 c73 => ?_))
          refine n_iinc2 dX5_readSum_76 (by decide) rfl (by omega) (fun r76 e76 => ?_)
          refine r_goto (t := 12) dX5_readSum_79 (by decide) ?_
          refine ih _ (i + 1) k2_z ((chP B n (atP B n (if lm = 5 then 8 else 6) 3) (opT B n)) (nxP B n ps)).2.1 (c ++ ((chP B n (atP B n (if lm = 5 then 8 else 6) 3) (opT B n)) (nxP B n ps)).2.2 ++ [(opS B n) ps]) g73 _ _ (by omega) (frM_tr ofs (frM_su o73 (by decide) (by decide))) (tkR_of ts o73 (by decide) (by decide) (by decide) (by decide)) (okR_ap (okR_ap hok (okR_cg ks wn rfl rfl)) ?_) (by omega) y2 ?_ (by omega) ?_ (by omega)
          · rw [List.length_append, ← Nat.add_assoc, hop]
            exact okR_one a73 b73 c73 (by omega)
          · rw [List.length_append, List.length_append, List.length_singleton]
            omega
          · exact (lpP_on (r := (0, ps, c)) rfl hop0 hq).symm.trans hR
        · have hv : ((chP B n (atP B n (if lm = 5 then 8 else 6) 3) (opT B n)) (nxP B n ps)) = chP B n (chP B n (atP B n (if lm = 5 then 8 else 6) 3) (opT B n)) (opS B n) p := (lpP_sub (k := k2_z) (r := (0, ps, c)) rfl hop0 hq).symm.trans hR
          refine r_iload2 dX5_readSum_12 ?_
          refine r_aloadR0 dX5_readSum_13 ?_
          refine m_getV (x := (f2_z A 1)) zf_RX5_15 rfl dX5_readSum_14 hr.1 (rfl) ?_
          refine t_icge (t := 82) dX5_readSum_17 (by decide) (fun h17 => False.elim (by omega)) (fun h17 => ?_)
          refine r_aloadR0 dX5_readSum_20 ?_
          refine m_getV (x := (f2_z A 4)) zf_RX5_25 rfl dX5_readSum_21 hr.1 (rfl) ?_
          refine n_bipush dX5_readSum_24 (by decide) (fun r24 e24_z => ?_)
          refine t_iceq (t := 38) dX5_readSum_26 (by decide) (fun h26 => ?_) (fun h26 => False.elim (by omega))
          refine r_aloadR0 dX5_readSum_38 ?_
          refine m_getV (x := (f2_z A 4)) zf_RX5_25 rfl dX5_readSum_39 hr.1 (rfl) ?_
          refine n_bipush dX5_readSum_42 (by decide) (fun r42 e42_z => ?_)
          refine t_icne (t := 53) dX5_readSum_44 (by decide) (fun h44 => False.elim (by omega)) (fun h44 => ?_)
          refine n_sipush dX5_readSum_47 (by decide) (fun r47 e47 => ?_)
          refine r_goto (t := 56) dX5_readSum_50 (by decide) ?_
          refine r_istore3 dX5_readSum_56 rfl ?_
          refine r_aloadR0 dX5_readSum_57 ?_
          refine q_callV0 zm_RX5_73 dX5_readSum_58 hr.1 (by decide) rfl (Nat.le_of_ble_eq_true rfl) (Nat.le_of_ble_eq_true rfl) (Nat.le_of_ble_eq_true rfl) (Nat.le_of_ble_eq_true rfl) (Nat.le_of_ble_eq_true rfl) (s_X5_next (p := teP B n ps) G hr kw ko htp2 htk2.2.1 (teP_le htk2.1) htk2.2.2.2.2.2.2 (fun v58 g58 o58 t58 => ?_))
          have t58 : tkR ca B n g58 v58 A (nxP B n ps) := t58
          have htpn := tpR_of htp2 ht o58 (by decide)
          have wn : g58 (A + 8) = f2_z (A + 8) := o58.2.1 8 (by decide) (by decide) (by decide)
          refine r_aloadR0 dX5_readSum_61 ?_
          refine r_iload1 dX5_readSum_62 ?_
          refine q_callV1 zm_RX5_191 dX5_readSum_63 hr.1 (by decide) rfl (Nat.le_of_ble_eq_true rfl) (Nat.le_of_ble_eq_true rfl) (Nat.le_of_ble_eq_true rfl) (Nat.le_of_ble_eq_true rfl) (Nat.le_of_ble_eq_true rfl) (s_X5_readTerm_3 (lm := lm) (u := u + c.length) G hr kw ko htpn t58 hx (by rw [o58.2.2 10 (by decide), ofr.2.2 10 (by decide)]; exact hol) (by rw [o58.2.2 9 (by decide)]; exact hok.1) (by omega) (fun rs vs gs os as bs => ?_))
          have as2 : ((chP B n (atP B n (if lm = 5 then 8 else 6) 3) (opT B n)) (nxP B n ps)).1 = 0 → rs.toInt = 1 ∧ tkR ca B n gs vs A ((chP B n (atP B n (if lm = 5 then 8 else 6) 3) (opT B n)) (nxP B n ps)).2.1 ∧ okR g58 gs A (u + c.length) ((chP B n (atP B n (if lm = 5 then 8 else 6) 3) (opT B n)) (nxP B n ps)).2.2 := as
          have bs2 : ((chP B n (atP B n (if lm = 5 then 8 else 6) 3) (opT B n)) (nxP B n ps)).1 ≠ 0 → rs.toInt = 0 ∧ flR gs A ((chP B n (atP B n (if lm = 5 then 8 else 6) 3) (opT B n)) (nxP B n ps)).1 ((chP B n (atP B n (if lm = 5 then 8 else 6) 3) (opT B n)) (nxP B n ps)).2.1 := bs
          have ofs : frM A [8] [2, 3, 4, 5, 9, 11, 12] f gs := frM_tr ofr (frM_tr (frM_su o58 (by decide) (by decide)) os)
          obtain ⟨cs, ls⟩ := bs2 hq
          refine t_ifne (t := 71) dX5_readSum_66 (by decide) (fun h66 => False.elim (by omega)) (fun h66 => ?_)
          refine n_iconst dX5_readSum_69 (by decide) (fun r69 e69 => ?_)
          refine m_zret dX5_readSum_70 rfl (by omega) (Nat.le_of_ble_eq_true rfl) (Nat.le_of_ble_eq_true rfl) ?_
          rw [← hv] at hQ
          exact hQ _ _ gs ofs (fun h_z => absurd h_z hq) (fun _ => ⟨e69, ls⟩)
      have hcn := hc_z
      clear hc_z
      by_cases hc_z : tkP B n ps = 45
      · have hop : (opS B n) ps = 2004 := (if_neg (by omega)).trans (if_pos hc_z)
        have hop0 : (opS B n) ps ≠ 0 := by rw [hop]; decide
        have hln := tk_lt (B := B) (n := n) (s := ps) (by rw [hc_z]; decide)
        obtain ⟨k2_z, rfl⟩ : ∃ k2_z, k = k2_z + 1 := ⟨k - 1, by omega⟩
        have hnx := nxP_gt (B := B) hln
        have gq := hgd _ hnx.2
        by_cases hq : ((chP B n (atP B n (if lm = 5 then 8 else 6) 3) (opT B n)) (nxP B n ps)).1 = 0
        · obtain ⟨y1, y2, y3, y4⟩ := gq.1 hq
          refine r_iload2 dX5_readSum_12 ?_
          refine r_aloadR0 dX5_readSum_13 ?_
          refine m_getV (x := (f2_z A 1)) zf_RX5_15 rfl dX5_readSum_14 hr.1 (rfl) ?_
          refine t_icge (t := 82) dX5_readSum_17 (by decide) (fun h17 => False.elim (by omega)) (fun h17 => ?_)
          refine r_aloadR0 dX5_readSum_20 ?_
          refine m_getV (x := (f2_z A 4)) zf_RX5_25 rfl dX5_readSum_21 hr.1 (rfl) ?_
          refine n_bipush dX5_readSum_24 (by decide) (fun r24 e24_z => ?_)
          refine t_iceq (t := 38) dX5_readSum_26 (by decide) (fun h26 => False.elim (by omega)) (fun h26 => ?_)
          refine r_aloadR0 dX5_readSum_29 ?_
          refine m_getV (x := (f2_z A 4)) zf_RX5_25 rfl dX5_readSum_30 hr.1 (rfl) ?_
          refine n_bipush dX5_readSum_33 (by decide) (fun r33 e33_z => ?_)
          refine t_icne (t := 82) dX5_readSum_35 (by decide) (fun h35 => False.elim (by omega)) (fun h35 => ?_)
          refine r_aloadR0 dX5_readSum_38 ?_
          refine m_getV (x := (f2_z A 4)) zf_RX5_25 rfl dX5_readSum_39 hr.1 (rfl) ?_
          refine n_bipush dX5_readSum_42 (by decide) (fun r42 e42_z => ?_)
          refine t_icne (t := 53) dX5_readSum_44 (by decide) (fun h44 => ?_) (fun h44 => False.elim (by omega))
          refine n_sipush dX5_readSum_53 (by decide) (fun r53 e53 => ?_)
          refine r_istore3 dX5_readSum_56 rfl ?_
          refine r_aloadR0 dX5_readSum_57 ?_
          refine q_callV0 zm_RX5_73 dX5_readSum_58 hr.1 (by decide) rfl (Nat.le_of_ble_eq_true rfl) (Nat.le_of_ble_eq_true rfl) (Nat.le_of_ble_eq_true rfl) (Nat.le_of_ble_eq_true rfl) (Nat.le_of_ble_eq_true rfl) (s_X5_next (p := teP B n ps) G hr kw ko htp2 htk2.2.1 (teP_le htk2.1) htk2.2.2.2.2.2.2 (fun v58 g58 o58 t58 => ?_))
          have t58 : tkR ca B n g58 v58 A (nxP B n ps) := t58
          have htpn := tpR_of htp2 ht o58 (by decide)
          have wn : g58 (A + 8) = f2_z (A + 8) := o58.2.1 8 (by decide) (by decide) (by decide)
          refine r_aloadR0 dX5_readSum_61 ?_
          refine r_iload1 dX5_readSum_62 ?_
          refine q_callV1 zm_RX5_191 dX5_readSum_63 hr.1 (by decide) rfl (Nat.le_of_ble_eq_true rfl) (Nat.le_of_ble_eq_true rfl) (Nat.le_of_ble_eq_true rfl) (Nat.le_of_ble_eq_true rfl) (Nat.le_of_ble_eq_true rfl) (s_X5_readTerm_3 (lm := lm) (u := u + c.length) G hr kw ko htpn t58 hx (by rw [o58.2.2 10 (by decide), ofr.2.2 10 (by decide)]; exact hol) (by rw [o58.2.2 9 (by decide)]; exact hok.1) (by omega) (fun rs vs gs os as bs => ?_))
          have as2 : ((chP B n (atP B n (if lm = 5 then 8 else 6) 3) (opT B n)) (nxP B n ps)).1 = 0 → rs.toInt = 1 ∧ tkR ca B n gs vs A ((chP B n (atP B n (if lm = 5 then 8 else 6) 3) (opT B n)) (nxP B n ps)).2.1 ∧ okR g58 gs A (u + c.length) ((chP B n (atP B n (if lm = 5 then 8 else 6) 3) (opT B n)) (nxP B n ps)).2.2 := as
          have bs2 : ((chP B n (atP B n (if lm = 5 then 8 else 6) 3) (opT B n)) (nxP B n ps)).1 ≠ 0 → rs.toInt = 0 ∧ flR gs A ((chP B n (atP B n (if lm = 5 then 8 else 6) 3) (opT B n)) (nxP B n ps)).1 ((chP B n (atP B n (if lm = 5 then 8 else 6) 3) (opT B n)) (nxP B n ps)).2.1 := bs
          have ofs : frM A [8] [2, 3, 4, 5, 9, 11, 12] f gs := frM_tr ofr (frM_tr (frM_su o58 (by decide) (by decide)) os)
          obtain ⟨cs, ts, ks⟩ := as2 hq
          refine t_ifne (t := 71) dX5_readSum_66 (by decide) (fun h66 => ?_) (fun h66 => False.elim (by omega))
          refine r_aloadR0 dX5_readSum_71 ?_
          refine r_iload3 dX5_readSum_72 ?_
          refine q_callV1 zm_RX5_173 dX5_readSum_73 hr.1 (by decide) rfl (Nat.le_of_ble_eq_true rfl) (Nat.le_of_ble_eq_true rfl) (Nat.le_of_ble_eq_true rfl) (Nat.le_of_ble_eq_true rfl) (Nat.le_of_ble_eq_true rfl) (s_X5_emit (u := u + c.length + ((chP B n (atP B n (if lm = 5 then 8 else 6) 3) (opT B n)) (nxP B n ps)).2.2.length) G hr ks.1 (by omega) (fun g73 o73 a73 b73 c73 => ?_))
          refine n_iinc2 dX5_readSum_76 (by decide) rfl (by omega) (fun r76 e76 => ?_)
          refine r_goto (t := 12) dX5_readSum_79 (by decide) ?_
          refine ih _ (i + 1) k2_z ((chP B n (atP B n (if lm = 5 then 8 else 6) 3) (opT B n)) (nxP B n ps)).2.1 (c ++ ((chP B n (atP B n (if lm = 5 then 8 else 6) 3) (opT B n)) (nxP B n ps)).2.2 ++ [(opS B n) ps]) g73 _ _ (by omega) (frM_tr ofs (frM_su o73 (by decide) (by decide))) (tkR_of ts o73 (by decide) (by decide) (by decide) (by decide)) (okR_ap (okR_ap hok (okR_cg ks wn rfl rfl)) ?_) (by omega) y2 ?_ (by omega) ?_ (by omega)
          · rw [List.length_append, ← Nat.add_assoc, hop]
            exact okR_one a73 b73 c73 (by omega)
          · rw [List.length_append, List.length_append, List.length_singleton]
            omega
          · exact (lpP_on (r := (0, ps, c)) rfl hop0 hq).symm.trans hR
        · have hv : ((chP B n (atP B n (if lm = 5 then 8 else 6) 3) (opT B n)) (nxP B n ps)) = chP B n (chP B n (atP B n (if lm = 5 then 8 else 6) 3) (opT B n)) (opS B n) p := (lpP_sub (k := k2_z) (r := (0, ps, c)) rfl hop0 hq).symm.trans hR
          refine r_iload2 dX5_readSum_12 ?_
          refine r_aloadR0 dX5_readSum_13 ?_
          refine m_getV (x := (f2_z A 1)) zf_RX5_15 rfl dX5_readSum_14 hr.1 (rfl) ?_
          refine t_icge (t := 82) dX5_readSum_17 (by decide) (fun h17 => False.elim (by omega)) (fun h17 => ?_)
          refine r_aloadR0 dX5_readSum_20 ?_
          refine m_getV (x := (f2_z A 4)) zf_RX5_25 rfl dX5_readSum_21 hr.1 (rfl) ?_
          refine n_bipush dX5_readSum_24 (by decide) (fun r24 e24_z => ?_)
          refine t_iceq (t := 38) dX5_readSum_26 (by decide) (fun h26 => False.elim (by omega)) (fun h26 => ?_)
          refine r_aloadR0 dX5_readSum_29 ?_
          refine m_getV (x := (f2_z A 4)) zf_RX5_25 rfl dX5_readSum_30 hr.1 (rfl) ?_
          refine n_bipush dX5_readSum_33 (by decide) (fun r33 e33_z => ?_)
          refine t_icne (t := 82) dX5_readSum_35 (by decide) (fun h35 => False.elim (by omega)) (fun h35 => ?_)
          refine r_aloadR0 dX5_readSum_38 ?_
          refine m_getV (x := (f2_z A 4)) zf_RX5_25 rfl dX5_readSum_39 hr.1 (rfl) ?_
          refine n_bipush dX5_readSum_42 (by decide) (fun r42 e42_z => ?_)
          refine t_icne (t := 53) dX5_readSum_44 (by decide) (fun h44 => ?_) (fun h44 => False.elim (by omega))
          refine n_sipush dX5_readSum_53 (by decide) (fun r53 e53 => ?_)
          refine r_istore3 dX5_readSum_56 rfl ?_
          refine r_aloadR0 dX5_readSum_57 ?_
          refine q_callV0 zm_RX5_73 dX5_readSum_58 hr.1 (by decide) rfl (Nat.le_of_ble_eq_true rfl) (Nat.le_of_ble_eq_true rfl) (Nat.le_of_ble_eq_true rfl) (Nat.le_of_ble_eq_true rfl) (Nat.le_of_ble_eq_true rfl) (s_X5_next (p := teP B n ps) G hr kw ko htp2 htk2.2.1 (teP_le htk2.1) htk2.2.2.2.2.2.2 (fun v58 g58 o58 t58 => ?_))
          have t58 : tkR ca B n g58 v58 A (nxP B n ps) := t58
          have htpn := tpR_of htp2 ht o58 (by decide)
          have wn : g58 (A + 8) = f2_z (A + 8) := o58.2.1 8 (by decide) (by decide) (by decide)
          refine r_aloadR0 dX5_readSum_61 ?_
          refine r_iload1 dX5_readSum_62 ?_
          refine q_callV1 zm_RX5_191 dX5_readSum_63 hr.1 (by decide) rfl (Nat.le_of_ble_eq_true rfl) (Nat.le_of_ble_eq_true rfl) (Nat.le_of_ble_eq_true rfl) (Nat.le_of_ble_eq_true rfl) (Nat.le_of_ble_eq_true rfl) (s_X5_readTerm_3 (lm := lm) (u := u + c.length) G hr kw ko htpn t58 hx (by rw [o58.2.2 10 (by decide), ofr.2.2 10 (by decide)]; exact hol) (by rw [o58.2.2 9 (by decide)]; exact hok.1) (by omega) (fun rs vs gs os as bs => ?_))
          have as2 : ((chP B n (atP B n (if lm = 5 then 8 else 6) 3) (opT B n)) (nxP B n ps)).1 = 0 → rs.toInt = 1 ∧ tkR ca B n gs vs A ((chP B n (atP B n (if lm = 5 then 8 else 6) 3) (opT B n)) (nxP B n ps)).2.1 ∧ okR g58 gs A (u + c.length) ((chP B n (atP B n (if lm = 5 then 8 else 6) 3) (opT B n)) (nxP B n ps)).2.2 := as
          have bs2 : ((chP B n (atP B n (if lm = 5 then 8 else 6) 3) (opT B n)) (nxP B n ps)).1 ≠ 0 → rs.toInt = 0 ∧ flR gs A ((chP B n (atP B n (if lm = 5 then 8 else 6) 3) (opT B n)) (nxP B n ps)).1 ((chP B n (atP B n (if lm = 5 then 8 else 6) 3) (opT B n)) (nxP B n ps)).2.1 := bs
          have ofs : frM A [8] [2, 3, 4, 5, 9, 11, 12] f gs := frM_tr ofr (frM_tr (frM_su o58 (by decide) (by decide)) os)
          obtain ⟨cs, ls⟩ := bs2 hq
          refine t_ifne (t := 71) dX5_readSum_66 (by decide) (fun h66 => False.elim (by omega)) (fun h66 => ?_)
          refine n_iconst dX5_readSum_69 (by decide) (fun r69 e69 => ?_)
          refine m_zret dX5_readSum_70 rfl (by omega) (Nat.le_of_ble_eq_true rfl) (Nat.le_of_ble_eq_true rfl) ?_
          rw [← hv] at hQ
          exact hQ _ _ gs ofs (fun h_z => absurd h_z hq) (fun _ => ⟨e69, ls⟩)
      have hop : (opS B n) ps = 0 := (if_neg hcn).trans (if_neg hc_z)
      have hv := (lpP_end (B := B) (n := n) (k := k) (sub := (chP B n (atP B n (if lm = 5 then 8 else 6) 3) (opT B n))) (r := (0, ps, c)) hop).symm.trans hR
      refine r_iload2 dX5_readSum_12 ?_
      refine r_aloadR0 dX5_readSum_13 ?_
      refine m_getV (x := (f2_z A 1)) zf_RX5_15 rfl dX5_readSum_14 hr.1 (rfl) ?_
      refine t_icge (t := 82) dX5_readSum_17 (by decide) (fun h17 => False.elim (by omega)) (fun h17 => ?_)
      refine r_aloadR0 dX5_readSum_20 ?_
      refine m_getV (x := (f2_z A 4)) zf_RX5_25 rfl dX5_readSum_21 hr.1 (rfl) ?_
      refine n_bipush dX5_readSum_24 (by decide) (fun r24 e24_z => ?_)
      refine t_iceq (t := 38) dX5_readSum_26 (by decide) (fun h26 => False.elim (by omega)) (fun h26 => ?_)
      refine r_aloadR0 dX5_readSum_29 ?_
      refine m_getV (x := (f2_z A 4)) zf_RX5_25 rfl dX5_readSum_30 hr.1 (rfl) ?_
      refine n_bipush dX5_readSum_33 (by decide) (fun r33 e33_z => ?_)
      refine t_icne (t := 82) dX5_readSum_35 (by decide) (fun h35 => ?_) (fun h35 => False.elim (by omega))
      refine n_iconst dX5_readSum_82 (by decide) (fun r82 e82 => ?_)
      refine m_zret dX5_readSum_83 rfl (by omega) (Nat.le_of_ble_eq_true rfl) (Nat.le_of_ble_eq_true rfl) ?_
      rw [← hv] at hQ
      exact hQ _ _ f2_z ofr (fun _ => ⟨e82, htk2, hok⟩) (fun h_z => absurd rfl h_z)
  have gp := hgd p hpn
  by_cases hq : ((chP B n (atP B n (if lm = 5 then 8 else 6) 3) (opT B n)) p).1 = 0
  · obtain ⟨y1, y2, y3, y4⟩ := gp.1 hq
    have hz : ((chP B n (atP B n (if lm = 5 then 8 else 6) 3) (opT B n)) p) = (0, ((chP B n (atP B n (if lm = 5 then 8 else 6) 3) (opT B n)) p).2.1, ((chP B n (atP B n (if lm = 5 then 8 else 6) 3) (opT B n)) p).2.2) := Prod.ext hq rfl
    refine r_aloadR0 dX5_readSum_0 ?_
    refine r_iload1 dX5_readSum_1 ?_
    refine q_callV1 zm_RX5_191 dX5_readSum_2 hr.1 (by decide) rfl (Nat.le_of_ble_eq_true rfl) (Nat.le_of_ble_eq_true rfl) (Nat.le_of_ble_eq_true rfl) (Nat.le_of_ble_eq_true rfl) (Nat.le_of_ble_eq_true rfl) (s_X5_readTerm_3 G hr kw ko htp htk hx hol hu hup (fun r2 v2 g2 o2 a2 b2 => ?_))
    have a2b : ((chP B n (atP B n (if lm = 5 then 8 else 6) 3) (opT B n)) p).1 = 0 → r2.toInt = 1 ∧ tkR ca B n g2 v2 A ((chP B n (atP B n (if lm = 5 then 8 else 6) 3) (opT B n)) p).2.1 ∧ okR f g2 A u ((chP B n (atP B n (if lm = 5 then 8 else 6) 3) (opT B n)) p).2.2 := a2
    have b2b : ((chP B n (atP B n (if lm = 5 then 8 else 6) 3) (opT B n)) p).1 ≠ 0 → r2.toInt = 0 ∧ flR g2 A ((chP B n (atP B n (if lm = 5 then 8 else 6) 3) (opT B n)) p).1 ((chP B n (atP B n (if lm = 5 then 8 else 6) 3) (opT B n)) p).2.1 := b2
    obtain ⟨c2_z, t2, k2_z⟩ := a2b hq
    refine t_ifne (t := 10) dX5_readSum_5 (by decide) (fun h5 => ?_) (fun h5 => False.elim (by omega))
    refine n_iconst dX5_readSum_10 (by decide) (fun r10 e10_z => ?_)
    refine r_istore2 dX5_readSum_11 rfl ?_
    exact lp (n + 1) _ 0 n ((chP B n (atP B n (if lm = 5 then 8 else 6) 3) (opT B n)) p).2.1 ((chP B n (atP B n (if lm = 5 then 8 else 6) 3) (opT B n)) p).2.2 g2 _ _ (by omega) o2 t2 k2_z (by omega) y2 y3 (by omega) (by rw [← hz]; rfl) (Nat.lt_succ_self n)
  · have hv : chP B n (chP B n (atP B n (if lm = 5 then 8 else 6) 3) (opT B n)) (opS B n) p = ((chP B n (atP B n (if lm = 5 then 8 else 6) 3) (opT B n)) p) := lpP_bad hq
    rw [hv] at hQ
    refine r_aloadR0 dX5_readSum_0 ?_
    refine r_iload1 dX5_readSum_1 ?_
    refine q_callV1 zm_RX5_191 dX5_readSum_2 hr.1 (by decide) rfl (Nat.le_of_ble_eq_true rfl) (Nat.le_of_ble_eq_true rfl) (Nat.le_of_ble_eq_true rfl) (Nat.le_of_ble_eq_true rfl) (Nat.le_of_ble_eq_true rfl) (s_X5_readTerm_3 G hr kw ko htp htk hx hol hu hup (fun r2 v2 g2 o2 a2 b2 => ?_))
    have a2b : ((chP B n (atP B n (if lm = 5 then 8 else 6) 3) (opT B n)) p).1 = 0 → r2.toInt = 1 ∧ tkR ca B n g2 v2 A ((chP B n (atP B n (if lm = 5 then 8 else 6) 3) (opT B n)) p).2.1 ∧ okR f g2 A u ((chP B n (atP B n (if lm = 5 then 8 else 6) 3) (opT B n)) p).2.2 := a2
    have b2b : ((chP B n (atP B n (if lm = 5 then 8 else 6) 3) (opT B n)) p).1 ≠ 0 → r2.toInt = 0 ∧ flR g2 A ((chP B n (atP B n (if lm = 5 then 8 else 6) 3) (opT B n)) p).1 ((chP B n (atP B n (if lm = 5 then 8 else 6) 3) (opT B n)) p).2.1 := b2
    obtain ⟨c2_z, l2⟩ := b2b hq
    refine t_ifne (t := 10) dX5_readSum_5 (by decide) (fun h5 => False.elim (by omega)) (fun h5 => ?_)
    refine n_iconst dX5_readSum_8 (by decide) (fun r8 e8 => ?_)
    refine m_zret dX5_readSum_9 rfl (by omega) (Nat.le_of_ble_eq_true rfl) (Nat.le_of_ble_eq_true rfl) ?_
    exact hQ _ _ g2 o2 (fun h_z => absurd h_z hq) (fun _ => ⟨e8, l2⟩)
set_option maxHeartbeats 4000000 in
set_option maxRecDepth 100000 in
theorem s_X5_readAtom_4 {g : zGT} {w : zW} {f : Nat → Nat → Int32} {j : Nat → Nat → Int64} {A tq nq : Nat} {v : Option Nat} {B : Nat → Nat} {n : Nat} {ca wa wv : Nat → Nat} {kq ta sm gq gv : Nat} {p lm u : Nat} {x : Int32} {Q : Option Value → zW → Prop} {QX : String → zW → Prop} (G : zGok g) (hr : shRd w A tq nq) (kw : kWd g wa wv kq) (ko : kWo g ca wa wv ta sm gq gv) (htp : tpR B n f A tq) (htk : tkR ca B n f v A p) (hx : x.toInt = 2) (hol : (f A 10).toInt = if lm = 5 then 1 else 0) (hu : (f A 9).toInt = (u : Nat)) (hup : u ≤ p) (hQ : ∀ (b : Int32) v2 f2_z, frM A [8] [2, 3, 4, 5, 9, 11, 12] f f2_z → ((atP B n (if lm = 5 then 8 else 6) 4 p).1 = 0 → b.toInt = 1 ∧ tkR ca B n f2_z v2 A (atP B n (if lm = 5 then 8 else 6) 4 p).2.1 ∧ okR f f2_z A u (atP B n (if lm = 5 then 8 else 6) 4 p).2.2) → ((atP B n (if lm = 5 then 8 else 6) 4 p).1 ≠ 0 → b.toInt = 0 ∧ flR f2_z A (atP B n (if lm = 5 then 8 else 6) 4 p).1 (atP B n (if lm = 5 then 8 else 6) 4 p).2.1) → Q (some (.int b)) (zM (wW w A v2) f2_z j)) : zC g 26 yX5_readAtom cX5_readAtom 3 (some .boolean) [.ref A, .int x] (zM (wW w A v) f j) (0, 0) Q QX := by
  refine zC_of G (by decide +kernel) (Nat.le_of_ble_eq_true rfl) ?_
  have ht := hr.2.2.2.2.2.2
  have h4 := htk.2.2.2.1
  have hpn := htk.1
  have h900 := htp.2.1
  by_cases hp : tkP B n p = 40
  · have hv : atP B n (if lm = 5 then 8 else 6) 4 p = clP B n 41 (suP B n (atP B n (if lm = 5 then 8 else 6) 3) (nxP B n p)) := if_pos hp
    rw [hv] at hQ
    have hln := tk_lt (B := B) (n := n) (s := p) (by rw [hp]; decide)
    have hnx := nxP_gt (B := B) hln
    by_cases hq : (suP B n (atP B n (if lm = 5 then 8 else 6) 3) (nxP B n p)).1 = 0
    · by_cases h41 : tkP B n (suP B n (atP B n (if lm = 5 then 8 else 6) 3) (nxP B n p)).2.1 = 41
      · have hv2 : clP B n 41 (suP B n (atP B n (if lm = 5 then 8 else 6) 3) (nxP B n p)) = (0, nxP B n (suP B n (atP B n (if lm = 5 then 8 else 6) 3) (nxP B n p)).2.1, (suP B n (atP B n (if lm = 5 then 8 else 6) 3) (nxP B n p)).2.2) := (if_neg (not_not_intro hq)).trans (if_pos h41)
        rw [hv2] at hQ
        refine r_aloadR0 dX5_readAtom_0 ?_
        refine m_getV (x := (f A 4)) zf_RX5_25 rfl dX5_readAtom_1 hr.1 (rfl) ?_
        refine n_bipush dX5_readAtom_4 (by decide) (fun r4 e4_z => ?_)
        refine t_icne (t := 42) dX5_readAtom_6 (by decide) (fun h6 => False.elim (by omega)) (fun h6 => ?_)
        refine r_aloadR0 dX5_readAtom_9 ?_
        refine r_iload1 dX5_readAtom_10 ?_
        refine q_callV1 zm_RX5_185 dX5_readAtom_11 hr.1 (by decide) rfl (Nat.le_of_ble_eq_true rfl) (Nat.le_of_ble_eq_true rfl) (Nat.le_of_ble_eq_true rfl) (Nat.le_of_ble_eq_true rfl) (Nat.le_of_ble_eq_true rfl) (s_X5_goDeeper (d := 2) G hr kw ko htp hx htk (fun r11 v11 g11 o11 a11 b11 => ?_))
        obtain ⟨c11, t11⟩ := a11 (by decide)
        have htp11 := tpR_of htp ht o11 (by decide)
        have w11 : g11 (A + 8) = f (A + 8) := o11.2.1 8 (by decide) (by decide) (by decide)
        refine t_ifeq (t := 40) dX5_readAtom_14 (by decide) (fun h14 => False.elim (by omega)) (fun h14 => ?_)
        refine r_aloadR0 dX5_readAtom_17 ?_
        refine r_iload1 dX5_readAtom_18 ?_
        refine n_iconst dX5_readAtom_19 (by decide) (fun r19 e19_z => ?_)
        refine n_iadd dX5_readAtom_20 (by omega) (fun r20 e20 => ?_)
        refine q_callV1 zm_RX5_146 dX5_readAtom_21 hr.1 (by decide) rfl (Nat.le_of_ble_eq_true rfl) (Nat.le_of_ble_eq_true rfl) (Nat.le_of_ble_eq_true rfl) (Nat.le_of_ble_eq_true rfl) (Nat.le_of_ble_eq_true rfl) (s_X5_readSum_3 (lm := lm) (u := u) G hr kw ko htp11 t11 (by omega) (by rw [o11.2.2 10 (by decide)]; exact hol) (by rw [o11.2.2 9 (by decide)]; exact hu) (by omega) (fun r21 v21 g21 o21 a21 b21 => ?_))
        have a21b : (suP B n (atP B n (if lm = 5 then 8 else 6) 3) (nxP B n p)).1 = 0 → r21.toInt = 1 ∧ tkR ca B n g21 v21 A (suP B n (atP B n (if lm = 5 then 8 else 6) 3) (nxP B n p)).2.1 ∧ okR g11 g21 A u (suP B n (atP B n (if lm = 5 then 8 else 6) 3) (nxP B n p)).2.2 := a21
        have b21b : (suP B n (atP B n (if lm = 5 then 8 else 6) 3) (nxP B n p)).1 ≠ 0 → r21.toInt = 0 ∧ flR g21 A (suP B n (atP B n (if lm = 5 then 8 else 6) 3) (nxP B n p)).1 (suP B n (atP B n (if lm = 5 then 8 else 6) 3) (nxP B n p)).2.1 := b21
        have of21 : frM A [8] [2, 3, 4, 5, 9, 11, 12] f g21 := frM_tr (frM_su o11 (by decide) (by decide)) o21
        obtain ⟨c21, t21, k21⟩ := a21b hq
        refine t_ifeq (t := 40) dX5_readAtom_24 (by decide) (fun h24 => False.elim (by omega)) (fun h24 => ?_)
        refine r_aloadR0 dX5_readAtom_27 ?_
        refine n_bipush dX5_readAtom_28 (by decide) (fun r28 e28_z => ?_)
        refine q_callV1 zm_RX5_102 dX5_readAtom_30 hr.1 (by decide) rfl (Nat.le_of_ble_eq_true rfl) (Nat.le_of_ble_eq_true rfl) (Nat.le_of_ble_eq_true rfl) (Nat.le_of_ble_eq_true rfl) (Nat.le_of_ble_eq_true rfl) (s_X5_takeSign (s := (suP B n (atP B n (if lm = 5 then 8 else 6) 3) (nxP B n p)).2.1) (c := 41) G hr kw ko (tpR_of htp ht of21 (by decide)) e28_z t21 (fun r30 v30 g30 o30 a30 b30 => ?_))
        obtain ⟨c30, t30⟩ := a30 h41
        refine t_ifeq (t := 40) dX5_readAtom_33 (by decide) (fun h33 => False.elim (by omega)) (fun h33 => ?_)
        refine n_iconst dX5_readAtom_36 (by decide) (fun r36 e36 => ?_)
        refine r_goto (t := 41) dX5_readAtom_37 (by decide) ?_
        refine m_zret dX5_readAtom_41 rfl (by omega) (Nat.le_of_ble_eq_true rfl) (Nat.le_of_ble_eq_true rfl) ?_
        exact hQ _ _ g30 (frM_tr of21 (frM_su o30 (by decide) (by decide))) (fun _ => ⟨e36, t30, okR_cg k21 w11 (o30.2.1 8 (by decide) (by decide) (by decide)) (o30.2.2 9 (by decide))⟩) (fun h_z => absurd rfl h_z)
      · have hv2 : clP B n 41 (suP B n (atP B n (if lm = 5 then 8 else 6) 3) (nxP B n p)) = (baP B n (suP B n (atP B n (if lm = 5 then 8 else 6) 3) (nxP B n p)).2.1, (suP B n (atP B n (if lm = 5 then 8 else 6) 3) (nxP B n p)).2.1, []) := (if_neg (not_not_intro hq)).trans (if_neg h41)
        rw [hv2] at hQ
        refine r_aloadR0 dX5_readAtom_0 ?_
        refine m_getV (x := (f A 4)) zf_RX5_25 rfl dX5_readAtom_1 hr.1 (rfl) ?_
        refine n_bipush dX5_readAtom_4 (by decide) (fun r4 e4_z => ?_)
        refine t_icne (t := 42) dX5_readAtom_6 (by decide) (fun h6 => False.elim (by omega)) (fun h6 => ?_)
        refine r_aloadR0 dX5_readAtom_9 ?_
        refine r_iload1 dX5_readAtom_10 ?_
        refine q_callV1 zm_RX5_185 dX5_readAtom_11 hr.1 (by decide) rfl (Nat.le_of_ble_eq_true rfl) (Nat.le_of_ble_eq_true rfl) (Nat.le_of_ble_eq_true rfl) (Nat.le_of_ble_eq_true rfl) (Nat.le_of_ble_eq_true rfl) (s_X5_goDeeper (d := 2) G hr kw ko htp hx htk (fun r11 v11 g11 o11 a11 b11 => ?_))
        obtain ⟨c11, t11⟩ := a11 (by decide)
        have htp11 := tpR_of htp ht o11 (by decide)
        have w11 : g11 (A + 8) = f (A + 8) := o11.2.1 8 (by decide) (by decide) (by decide)
        refine t_ifeq (t := 40) dX5_readAtom_14 (by decide) (fun h14 => False.elim (by omega)) (fun h14 => ?_)
        refine r_aloadR0 dX5_readAtom_17 ?_
        refine r_iload1 dX5_readAtom_18 ?_
        refine n_iconst dX5_readAtom_19 (by decide) (fun r19 e19_z => ?_)
        refine n_iadd dX5_readAtom_20 (by omega) (fun r20 e20 => ?_)
        refine q_callV1 zm_RX5_146 dX5_readAtom_21 hr.1 (by decide) rfl (Nat.le_of_ble_eq_true rfl) (Nat.le_of_ble_eq_true rfl) (Nat.le_of_ble_eq_true rfl) (Nat.le_of_ble_eq_true rfl) (Nat.le_of_ble_eq_true rfl) (s_X5_readSum_3 (lm := lm) (u := u) G hr kw ko htp11 t11 (by omega) (by rw [o11.2.2 10 (by decide)]; exact hol) (by rw [o11.2.2 9 (by decide)]; exact hu) (by omega) (fun r21 v21 g21 o21 a21 b21 => ?_))
        have a21b : (suP B n (atP B n (if lm = 5 then 8 else 6) 3) (nxP B n p)).1 = 0 → r21.toInt = 1 ∧ tkR ca B n g21 v21 A (suP B n (atP B n (if lm = 5 then 8 else 6) 3) (nxP B n p)).2.1 ∧ okR g11 g21 A u (suP B n (atP B n (if lm = 5 then 8 else 6) 3) (nxP B n p)).2.2 := a21
        have b21b : (suP B n (atP B n (if lm = 5 then 8 else 6) 3) (nxP B n p)).1 ≠ 0 → r21.toInt = 0 ∧ flR g21 A (suP B n (atP B n (if lm = 5 then 8 else 6) 3) (nxP B n p)).1 (suP B n (atP B n (if lm = 5 then 8 else 6) 3) (nxP B n p)).2.1 := b21
        have of21 : frM A [8] [2, 3, 4, 5, 9, 11, 12] f g21 := frM_tr (frM_su o11 (by decide) (by decide)) o21
        obtain ⟨c21, t21, k21⟩ := a21b hq
        refine t_ifeq (t := 40) dX5_readAtom_24 (by decide) (fun h24 => False.elim (by omega)) (fun h24 => ?_)
        refine r_aloadR0 dX5_readAtom_27 ?_
        refine n_bipush dX5_readAtom_28 (by decide) (fun r28 e28_z => ?_)
        refine q_callV1 zm_RX5_102 dX5_readAtom_30 hr.1 (by decide) rfl (Nat.le_of_ble_eq_true rfl) (Nat.le_of_ble_eq_true rfl) (Nat.le_of_ble_eq_true rfl) (Nat.le_of_ble_eq_true rfl) (Nat.le_of_ble_eq_true rfl) (s_X5_takeSign (s := (suP B n (atP B n (if lm = 5 then 8 else 6) 3) (nxP B n p)).2.1) (c := 41) G hr kw ko (tpR_of htp ht of21 (by decide)) e28_z t21 (fun r30 v30 g30 o30 a30 b30 => ?_))
        obtain ⟨c30, l30⟩ := b30 h41
        refine t_ifeq (t := 40) dX5_readAtom_33 (by decide) (fun h33 => ?_) (fun h33 => False.elim (by omega))
        refine n_iconst dX5_readAtom_40 (by decide) (fun r40 e40 => ?_)
        refine m_zret dX5_readAtom_41 rfl (by omega) (Nat.le_of_ble_eq_true rfl) (Nat.le_of_ble_eq_true rfl) ?_
        exact hQ _ _ g30 (frM_tr of21 (frM_su o30 (by decide) (by decide))) (fun h_z => absurd h_z ba_bd.1) (fun _ => ⟨e40, l30⟩)
    · have hv2 : clP B n 41 (suP B n (atP B n (if lm = 5 then 8 else 6) 3) (nxP B n p)) = (suP B n (atP B n (if lm = 5 then 8 else 6) 3) (nxP B n p)) := if_pos hq
      rw [hv2] at hQ
      refine r_aloadR0 dX5_readAtom_0 ?_
      refine m_getV (x := (f A 4)) zf_RX5_25 rfl dX5_readAtom_1 hr.1 (rfl) ?_
      refine n_bipush dX5_readAtom_4 (by decide) (fun r4 e4_z => ?_)
      refine t_icne (t := 42) dX5_readAtom_6 (by decide) (fun h6 => False.elim (by omega)) (fun h6 => ?_)
      refine r_aloadR0 dX5_readAtom_9 ?_
      refine r_iload1 dX5_readAtom_10 ?_
      refine q_callV1 zm_RX5_185 dX5_readAtom_11 hr.1 (by decide) rfl (Nat.le_of_ble_eq_true rfl) (Nat.le_of_ble_eq_true rfl) (Nat.le_of_ble_eq_true rfl) (Nat.le_of_ble_eq_true rfl) (Nat.le_of_ble_eq_true rfl) (s_X5_goDeeper (d := 2) G hr kw ko htp hx htk (fun r11 v11 g11 o11 a11 b11 => ?_))
      obtain ⟨c11, t11⟩ := a11 (by decide)
      have htp11 := tpR_of htp ht o11 (by decide)
      have w11 : g11 (A + 8) = f (A + 8) := o11.2.1 8 (by decide) (by decide) (by decide)
      refine t_ifeq (t := 40) dX5_readAtom_14 (by decide) (fun h14 => False.elim (by omega)) (fun h14 => ?_)
      refine r_aloadR0 dX5_readAtom_17 ?_
      refine r_iload1 dX5_readAtom_18 ?_
      refine n_iconst dX5_readAtom_19 (by decide) (fun r19 e19_z => ?_)
      refine n_iadd dX5_readAtom_20 (by omega) (fun r20 e20 => ?_)
      refine q_callV1 zm_RX5_146 dX5_readAtom_21 hr.1 (by decide) rfl (Nat.le_of_ble_eq_true rfl) (Nat.le_of_ble_eq_true rfl) (Nat.le_of_ble_eq_true rfl) (Nat.le_of_ble_eq_true rfl) (Nat.le_of_ble_eq_true rfl) (s_X5_readSum_3 (lm := lm) (u := u) G hr kw ko htp11 t11 (by omega) (by rw [o11.2.2 10 (by decide)]; exact hol) (by rw [o11.2.2 9 (by decide)]; exact hu) (by omega) (fun r21 v21 g21 o21 a21 b21 => ?_))
      have a21b : (suP B n (atP B n (if lm = 5 then 8 else 6) 3) (nxP B n p)).1 = 0 → r21.toInt = 1 ∧ tkR ca B n g21 v21 A (suP B n (atP B n (if lm = 5 then 8 else 6) 3) (nxP B n p)).2.1 ∧ okR g11 g21 A u (suP B n (atP B n (if lm = 5 then 8 else 6) 3) (nxP B n p)).2.2 := a21
      have b21b : (suP B n (atP B n (if lm = 5 then 8 else 6) 3) (nxP B n p)).1 ≠ 0 → r21.toInt = 0 ∧ flR g21 A (suP B n (atP B n (if lm = 5 then 8 else 6) 3) (nxP B n p)).1 (suP B n (atP B n (if lm = 5 then 8 else 6) 3) (nxP B n p)).2.1 := b21
      have of21 : frM A [8] [2, 3, 4, 5, 9, 11, 12] f g21 := frM_tr (frM_su o11 (by decide) (by decide)) o21
      obtain ⟨c21, l21⟩ := b21b hq
      refine t_ifeq (t := 40) dX5_readAtom_24 (by decide) (fun h24 => ?_) (fun h24 => False.elim (by omega))
      refine n_iconst dX5_readAtom_40 (by decide) (fun r40 e40 => ?_)
      refine m_zret dX5_readAtom_41 rfl (by omega) (Nat.le_of_ble_eq_true rfl) (Nat.le_of_ble_eq_true rfl) ?_
      exact hQ _ _ g21 of21 (fun h_z => absurd h_z hq) (fun _ => ⟨e40, l21⟩)
  have hv0 : atP B n (if lm = 5 then 8 else 6) 4 p = a1P B n (if lm = 5 then 8 else 6) p := if_neg hp
  rw [hv0] at hQ
  by_cases h2 : tkP B n p = 2
  · have hv : a1P B n (if lm = 5 then 8 else 6) p = (0, nxP B n p, [nmP B n p]) := a1_num h2
    rw [hv] at hQ
    have hln := (tk2 h2).1
    have h5 := htk.2.2.2.2.1 h2
    refine r_aloadR0 dX5_readAtom_0 ?_
    refine m_getV (x := (f A 4)) zf_RX5_25 rfl dX5_readAtom_1 hr.1 (rfl) ?_
    refine n_bipush dX5_readAtom_4 (by decide) (fun r4 e4_z => ?_)
    refine t_icne (t := 42) dX5_readAtom_6 (by decide) (fun h6 => ?_) (fun h6 => False.elim (by omega))
    refine r_aloadR0 dX5_readAtom_42 ?_
    refine m_getV (x := (f A 4)) zf_RX5_25 rfl dX5_readAtom_43 hr.1 (rfl) ?_
    refine n_iconst dX5_readAtom_46 (by decide) (fun r46 e46 => ?_)
    refine t_icne (t := 64) dX5_readAtom_47 (by decide) (fun h47 => False.elim (by omega)) (fun h47 => ?_)
    refine r_aloadR0 dX5_readAtom_50 ?_
    refine r_aloadR0 dX5_readAtom_51 ?_
    refine m_getV (x := (f A 5)) zf_RX5_28 rfl dX5_readAtom_52 hr.1 (rfl) ?_
    refine q_callV1 zm_RX5_173 dX5_readAtom_55 hr.1 (by decide) rfl (Nat.le_of_ble_eq_true rfl) (Nat.le_of_ble_eq_true rfl) (Nat.le_of_ble_eq_true rfl) (Nat.le_of_ble_eq_true rfl) (Nat.le_of_ble_eq_true rfl) (s_X5_emit (u := u) G hr hu (by omega) (fun g55 o55 a55 b55 c55 => ?_))
    have t55 := tkR_of htk o55 (by decide) (by decide) (by decide) (by decide)
    have htp55 := tpR_of htp ht o55 (by decide)
    refine r_aloadR0 dX5_readAtom_58 ?_
    refine q_callV0 zm_RX5_73 dX5_readAtom_59 hr.1 (by decide) rfl (Nat.le_of_ble_eq_true rfl) (Nat.le_of_ble_eq_true rfl) (Nat.le_of_ble_eq_true rfl) (Nat.le_of_ble_eq_true rfl) (Nat.le_of_ble_eq_true rfl) (s_X5_next (p := teP B n p) G hr kw ko htp55 t55.2.1 (teP_le t55.1) t55.2.2.2.2.2.2 (fun v59 g59 o59 t59 => ?_))
    have t59 : tkR ca B n g59 v59 A (nxP B n p) := t59
    refine n_iconst dX5_readAtom_62 (by decide) (fun r62 e62 => ?_)
    refine m_zret dX5_readAtom_63 rfl (by omega) (Nat.le_of_ble_eq_true rfl) (Nat.le_of_ble_eq_true rfl) ?_
    exact hQ _ _ g59 (frM_tr (frM_su o55 (by decide) (by decide)) (frM_su o59 (by decide) (by decide))) (fun _ => ⟨e62, t59, okR_cg (okR_one a55 b55 c55 h5) rfl (o59.2.1 8 (by decide) (by decide) (by decide)) (o59.2.2 9 (by decide))⟩) (fun h_z => absurd rfl h_z)
  have hwl := wd_le (B := B) (n := n) (s := p)
  have f1_z := fcI_ne (wdP B n p) (by omega)
  have f2_z := fcI_eq (wdP B n p) (by omega)
  have f3_z := fcP_a (wdP B n p) (by omega)
  have f9_z := fcP_9 (wdP B n p) (by omega)
  by_cases hf : tkP B n p = 3 ∧ fcP (wdP B n p) < (if lm = 5 then 8 else 6)
  · have hv : a1P B n (if lm = 5 then 8 else 6) p = (0, nxP B n p, [1000 + fcP (wdP B n p)]) := a1_fact hf
    rw [hv] at hQ
    have hv3 := htk.2.2.2.2.2.1 hf.1
    have hf8 : fcP (wdP B n p) < 8 := Nat.lt_of_lt_of_le hf.2 (by split <;> decide)
    have hln := tk_lt (B := B) (n := n) (s := p) (by rw [hf.1]; decide)
    have g3_z := f2_z (by omega)
    have n1 : (fcI (wdP B n p)).toInt ≠ -1 := fun h_z => by have := f1_z.mp h_z; omega
    by_cases h5l : lm = 5
    · rw [if_pos h5l] at hol
      refine r_aloadR0 dX5_readAtom_0 ?_
      refine m_getV (x := (f A 4)) zf_RX5_25 rfl dX5_readAtom_1 hr.1 (rfl) ?_
      refine n_bipush dX5_readAtom_4 (by decide) (fun r4 e4_z => ?_)
      refine t_icne (t := 42) dX5_readAtom_6 (by decide) (fun h6 => ?_) (fun h6 => False.elim (by omega))
      refine r_aloadR0 dX5_readAtom_42 ?_
      refine m_getV (x := (f A 4)) zf_RX5_25 rfl dX5_readAtom_43 hr.1 (rfl) ?_
      refine n_iconst dX5_readAtom_46 (by decide) (fun r46 e46 => ?_)
      refine t_icne (t := 64) dX5_readAtom_47 (by decide) (fun h47 => ?_) (fun h47 => False.elim (by omega))
      refine r_aloadR0 dX5_readAtom_64 ?_
      refine m_getV (x := (f A 4)) zf_RX5_25 rfl dX5_readAtom_65 hr.1 (rfl) ?_
      refine n_iconst dX5_readAtom_68 (by decide) (fun r68 e68 => ?_)
      refine t_icne (t := 104) dX5_readAtom_69 (by decide) (fun h69 => False.elim (by omega)) (fun h69 => ?_)
      refine r_aloadR0 dX5_readAtom_72 ?_
      refine m_getR (q := (ca (wdP B n p))) zf_RX5_37 rfl dX5_readAtom_73 hr.1 (zu_at.trans hv3) ?_
      refine k_getf (fun U hU => (ko.2.2.2.2.1 _ (Nat.lt_succ_of_le wd_le) U hU).2.2.1) zg_RX5_197 dX5_readAtom_76 ?_
      refine n_iconst dX5_readAtom_79 (by decide) (fun r79 e79 => ?_)
      refine t_iceq (t := 104) dX5_readAtom_80 (by decide) (fun h80 => False.elim (by omega)) (fun h80 => ?_)
      refine r_aloadR0 dX5_readAtom_83 ?_
      refine m_getV (x := (f A 10)) zf_RX5_54 rfl dX5_readAtom_84 hr.1 (rfl) ?_
      refine t_ifne (t := 100) dX5_readAtom_87 (by decide) (fun h87 => ?_) (fun h87 => False.elim (by omega))
      refine n_iconst dX5_readAtom_100 (by decide) (fun r100 e100_z => ?_)
      refine r_goto (t := 105) dX5_readAtom_101 (by decide) ?_
      refine r_istore2 dX5_readAtom_105 rfl ?_
      refine r_iload2 dX5_readAtom_106 ?_
      refine t_ifne (t := 115) dX5_readAtom_107 (by decide) (fun h107 => ?_) (fun h107 => False.elim (by omega))
      refine r_aloadR0 dX5_readAtom_115 ?_
      refine n_sipush dX5_readAtom_116 (by decide) (fun r116 e116 => ?_)
      refine r_aloadR0 dX5_readAtom_119 ?_
      refine m_getR (q := (ca (wdP B n p))) zf_RX5_37 rfl dX5_readAtom_120 hr.1 (zu_at.trans hv3) ?_
      refine k_getf (fun U hU => (ko.2.2.2.2.1 _ (Nat.lt_succ_of_le wd_le) U hU).2.2.1) zg_RX5_197 dX5_readAtom_123 ?_
      refine n_iadd dX5_readAtom_126 (by omega) (fun r126 e126 => ?_)
      refine q_callV1 zm_RX5_173 dX5_readAtom_127 hr.1 (by decide) rfl (Nat.le_of_ble_eq_true rfl) (Nat.le_of_ble_eq_true rfl) (Nat.le_of_ble_eq_true rfl) (Nat.le_of_ble_eq_true rfl) (Nat.le_of_ble_eq_true rfl) (s_X5_emit (u := u) G hr hu (by omega) (fun g127 o127 a127 b127 c127 => ?_))
      have t127 := tkR_of htk o127 (by decide) (by decide) (by decide) (by decide)
      have htp127 := tpR_of htp ht o127 (by decide)
      refine r_aloadR0 dX5_readAtom_130 ?_
      refine q_callV0 zm_RX5_73 dX5_readAtom_131 hr.1 (by decide) rfl (Nat.le_of_ble_eq_true rfl) (Nat.le_of_ble_eq_true rfl) (Nat.le_of_ble_eq_true rfl) (Nat.le_of_ble_eq_true rfl) (Nat.le_of_ble_eq_true rfl) (s_X5_next (p := teP B n p) G hr kw ko htp127 t127.2.1 (teP_le t127.1) t127.2.2.2.2.2.2 (fun v131 g131 o131 t131 => ?_))
      have t131 : tkR ca B n g131 v131 A (nxP B n p) := t131
      refine n_iconst dX5_readAtom_134 (by decide) (fun r134 e134 => ?_)
      refine m_zret dX5_readAtom_135 rfl (by omega) (Nat.le_of_ble_eq_true rfl) (Nat.le_of_ble_eq_true rfl) ?_
      exact hQ _ _ g131 (frM_tr (frM_su o127 (by decide) (by decide)) (frM_su o131 (by decide) (by decide))) (fun _ => ⟨e134, t131, okR_cg (okR_one a127 b127 c127 (by omega)) rfl (o131.2.1 8 (by decide) (by decide) (by decide)) (o131.2.2 9 (by decide))⟩) (fun h_z => absurd rfl h_z)
    · rw [if_neg h5l] at hol
      have h6 : fcP (wdP B n p) < 6 := by have h7 := hf.2; rw [if_neg h5l] at h7; exact h7
      have hna := (f3_z hf8).mp h6
      refine r_aloadR0 dX5_readAtom_0 ?_
      refine m_getV (x := (f A 4)) zf_RX5_25 rfl dX5_readAtom_1 hr.1 (rfl) ?_
      refine n_bipush dX5_readAtom_4 (by decide) (fun r4 e4_z => ?_)
      refine t_icne (t := 42) dX5_readAtom_6 (by decide) (fun h6 => ?_) (fun h6 => False.elim (by omega))
      refine r_aloadR0 dX5_readAtom_42 ?_
      refine m_getV (x := (f A 4)) zf_RX5_25 rfl dX5_readAtom_43 hr.1 (rfl) ?_
      refine n_iconst dX5_readAtom_46 (by decide) (fun r46 e46 => ?_)
      refine t_icne (t := 64) dX5_readAtom_47 (by decide) (fun h47 => ?_) (fun h47 => False.elim (by omega))
      refine r_aloadR0 dX5_readAtom_64 ?_
      refine m_getV (x := (f A 4)) zf_RX5_25 rfl dX5_readAtom_65 hr.1 (rfl) ?_
      refine n_iconst dX5_readAtom_68 (by decide) (fun r68 e68 => ?_)
      refine t_icne (t := 104) dX5_readAtom_69 (by decide) (fun h69 => False.elim (by omega)) (fun h69 => ?_)
      refine r_aloadR0 dX5_readAtom_72 ?_
      refine m_getR (q := (ca (wdP B n p))) zf_RX5_37 rfl dX5_readAtom_73 hr.1 (zu_at.trans hv3) ?_
      refine k_getf (fun U hU => (ko.2.2.2.2.1 _ (Nat.lt_succ_of_le wd_le) U hU).2.2.1) zg_RX5_197 dX5_readAtom_76 ?_
      refine n_iconst dX5_readAtom_79 (by decide) (fun r79 e79 => ?_)
      refine t_iceq (t := 104) dX5_readAtom_80 (by decide) (fun h80 => False.elim (by omega)) (fun h80 => ?_)
      refine r_aloadR0 dX5_readAtom_83 ?_
      refine m_getV (x := (f A 10)) zf_RX5_54 rfl dX5_readAtom_84 hr.1 (rfl) ?_
      refine t_ifne (t := 100) dX5_readAtom_87 (by decide) (fun h87 => False.elim (by omega)) (fun h87 => ?_)
      refine r_aloadR0 dX5_readAtom_90 ?_
      refine m_getR (q := (ca (wdP B n p))) zf_RX5_37 rfl dX5_readAtom_91 hr.1 (zu_at.trans hv3) ?_
      refine k_callV0 zm_RX5_200 dX5_readAtom_94 (fun U hU => (ko.2.2.2.2.1 _ (Nat.lt_succ_of_le wd_le) U hU).1) (Nat.le_of_ble_eq_true rfl) (Nat.le_of_ble_eq_true rfl) (Nat.le_of_ble_eq_true rfl) (Nat.le_of_ble_eq_true rfl) (Nat.le_of_ble_eq_true rfl) (s_X10_isOfLikesAlone (i := wdP B n p) G kw ko (by omega) (fun r94 e94_z => ?_))
      refine t_ifne (t := 104) dX5_readAtom_97 (by decide) (fun h97 => False.elim (e94_z.elim (fun h_z => hna h_z.2) (fun h_z => by omega))) (fun h97 => ?_)
      refine n_iconst dX5_readAtom_100 (by decide) (fun r100 e100_z => ?_)
      refine r_goto (t := 105) dX5_readAtom_101 (by decide) ?_
      refine r_istore2 dX5_readAtom_105 rfl ?_
      refine r_iload2 dX5_readAtom_106 ?_
      refine t_ifne (t := 115) dX5_readAtom_107 (by decide) (fun h107 => ?_) (fun h107 => False.elim (by omega))
      refine r_aloadR0 dX5_readAtom_115 ?_
      refine n_sipush dX5_readAtom_116 (by decide) (fun r116 e116 => ?_)
      refine r_aloadR0 dX5_readAtom_119 ?_
      refine m_getR (q := (ca (wdP B n p))) zf_RX5_37 rfl dX5_readAtom_120 hr.1 (zu_at.trans hv3) ?_
      refine k_getf (fun U hU => (ko.2.2.2.2.1 _ (Nat.lt_succ_of_le wd_le) U hU).2.2.1) zg_RX5_197 dX5_readAtom_123 ?_
      refine n_iadd dX5_readAtom_126 (by omega) (fun r126 e126 => ?_)
      refine q_callV1 zm_RX5_173 dX5_readAtom_127 hr.1 (by decide) rfl (Nat.le_of_ble_eq_true rfl) (Nat.le_of_ble_eq_true rfl) (Nat.le_of_ble_eq_true rfl) (Nat.le_of_ble_eq_true rfl) (Nat.le_of_ble_eq_true rfl) (s_X5_emit (u := u) G hr hu (by omega) (fun g127 o127 a127 b127 c127 => ?_))
      have t127 := tkR_of htk o127 (by decide) (by decide) (by decide) (by decide)
      have htp127 := tpR_of htp ht o127 (by decide)
      refine r_aloadR0 dX5_readAtom_130 ?_
      refine q_callV0 zm_RX5_73 dX5_readAtom_131 hr.1 (by decide) rfl (Nat.le_of_ble_eq_true rfl) (Nat.le_of_ble_eq_true rfl) (Nat.le_of_ble_eq_true rfl) (Nat.le_of_ble_eq_true rfl) (Nat.le_of_ble_eq_true rfl) (s_X5_next (p := teP B n p) G hr kw ko htp127 t127.2.1 (teP_le t127.1) t127.2.2.2.2.2.2 (fun v131 g131 o131 t131 => ?_))
      have t131 : tkR ca B n g131 v131 A (nxP B n p) := t131
      refine n_iconst dX5_readAtom_134 (by decide) (fun r134 e134 => ?_)
      refine m_zret dX5_readAtom_135 rfl (by omega) (Nat.le_of_ble_eq_true rfl) (Nat.le_of_ble_eq_true rfl) ?_
      exact hQ _ _ g131 (frM_tr (frM_su o127 (by decide) (by decide)) (frM_su o131 (by decide) (by decide))) (fun _ => ⟨e134, t131, okR_cg (okR_one a127 b127 c127 (by omega)) rfl (o131.2.1 8 (by decide) (by decide) (by decide)) (o131.2.2 9 (by decide))⟩) (fun h_z => absurd rfl h_z)
  have hba := ba_bd (B := B) (n := n) (s := p)
  have hv : a1P B n (if lm = 5 then 8 else 6) p = (baP B n p, p, []) := a1_bad h2 hf
  rw [hv] at hQ
  by_cases h3 : tkP B n p = 3
  · have hv3 := htk.2.2.2.2.2.1 h3
    by_cases h8 : fcP (wdP B n p) = 8
    · have n1 := f1_z.mpr h8
      refine r_aloadR0 dX5_readAtom_0 ?_
      refine m_getV (x := (f A 4)) zf_RX5_25 rfl dX5_readAtom_1 hr.1 (rfl) ?_
      refine n_bipush dX5_readAtom_4 (by decide) (fun r4 e4_z => ?_)
      refine t_icne (t := 42) dX5_readAtom_6 (by decide) (fun h6 => ?_) (fun h6 => False.elim (by omega))
      refine r_aloadR0 dX5_readAtom_42 ?_
      refine m_getV (x := (f A 4)) zf_RX5_25 rfl dX5_readAtom_43 hr.1 (rfl) ?_
      refine n_iconst dX5_readAtom_46 (by decide) (fun r46 e46 => ?_)
      refine t_icne (t := 64) dX5_readAtom_47 (by decide) (fun h47 => ?_) (fun h47 => False.elim (by omega))
      refine r_aloadR0 dX5_readAtom_64 ?_
      refine m_getV (x := (f A 4)) zf_RX5_25 rfl dX5_readAtom_65 hr.1 (rfl) ?_
      refine n_iconst dX5_readAtom_68 (by decide) (fun r68 e68 => ?_)
      refine t_icne (t := 104) dX5_readAtom_69 (by decide) (fun h69 => False.elim (by omega)) (fun h69 => ?_)
      refine r_aloadR0 dX5_readAtom_72 ?_
      refine m_getR (q := (ca (wdP B n p))) zf_RX5_37 rfl dX5_readAtom_73 hr.1 (zu_at.trans hv3) ?_
      refine k_getf (fun U hU => (ko.2.2.2.2.1 _ (Nat.lt_succ_of_le wd_le) U hU).2.2.1) zg_RX5_197 dX5_readAtom_76 ?_
      refine n_iconst dX5_readAtom_79 (by decide) (fun r79 e79 => ?_)
      refine t_iceq (t := 104) dX5_readAtom_80 (by decide) (fun h80 => ?_) (fun h80 => False.elim (by omega))
      refine n_iconst dX5_readAtom_104 (by decide) (fun r104 e104_z => ?_)
      refine r_istore2 dX5_readAtom_105 rfl ?_
      refine r_iload2 dX5_readAtom_106 ?_
      refine t_ifne (t := 115) dX5_readAtom_107 (by decide) (fun h107 => False.elim (by omega)) (fun h107 => ?_)
      refine r_aloadR0 dX5_readAtom_110 ?_
      refine q_callV0 zm_RX5_80 dX5_readAtom_111 hr.1 (by decide) rfl (Nat.le_of_ble_eq_true rfl) (Nat.le_of_ble_eq_true rfl) (Nat.le_of_ble_eq_true rfl) (Nat.le_of_ble_eq_true rfl) (Nat.le_of_ble_eq_true rfl) (s_X5_refuseToken G hr htk (fun r111 g111 e111_z o111 l111 => ?_))
      refine m_zret dX5_readAtom_114 rfl (by omega) (Nat.le_of_ble_eq_true rfl) (Nat.le_of_ble_eq_true rfl) ?_
      exact hQ _ _ g111 (frM_su o111 (by decide) (by decide)) (fun h_z => absurd h_z hba.1) (fun _ => ⟨e111_z, l111⟩)
    · have n1 : (fcI (wdP B n p)).toInt ≠ -1 := fun h_z => h8 (f1_z.mp h_z)
      have h5l : lm ≠ 5 := fun h_z => hf ⟨h3, by rw [if_pos h_z]; omega⟩
      rw [if_neg h5l] at hol
      have hna : wdP B n p = 2 ∨ wdP B n p = 15 := Decidable.byContradiction (fun h_z => hf ⟨h3, by rw [if_neg h5l]; exact (f3_z (by omega)).mpr h_z⟩)
      refine r_aloadR0 dX5_readAtom_0 ?_
      refine m_getV (x := (f A 4)) zf_RX5_25 rfl dX5_readAtom_1 hr.1 (rfl) ?_
      refine n_bipush dX5_readAtom_4 (by decide) (fun r4 e4_z => ?_)
      refine t_icne (t := 42) dX5_readAtom_6 (by decide) (fun h6 => ?_) (fun h6 => False.elim (by omega))
      refine r_aloadR0 dX5_readAtom_42 ?_
      refine m_getV (x := (f A 4)) zf_RX5_25 rfl dX5_readAtom_43 hr.1 (rfl) ?_
      refine n_iconst dX5_readAtom_46 (by decide) (fun r46 e46 => ?_)
      refine t_icne (t := 64) dX5_readAtom_47 (by decide) (fun h47 => ?_) (fun h47 => False.elim (by omega))
      refine r_aloadR0 dX5_readAtom_64 ?_
      refine m_getV (x := (f A 4)) zf_RX5_25 rfl dX5_readAtom_65 hr.1 (rfl) ?_
      refine n_iconst dX5_readAtom_68 (by decide) (fun r68 e68 => ?_)
      refine t_icne (t := 104) dX5_readAtom_69 (by decide) (fun h69 => False.elim (by omega)) (fun h69 => ?_)
      refine r_aloadR0 dX5_readAtom_72 ?_
      refine m_getR (q := (ca (wdP B n p))) zf_RX5_37 rfl dX5_readAtom_73 hr.1 (zu_at.trans hv3) ?_
      refine k_getf (fun U hU => (ko.2.2.2.2.1 _ (Nat.lt_succ_of_le wd_le) U hU).2.2.1) zg_RX5_197 dX5_readAtom_76 ?_
      refine n_iconst dX5_readAtom_79 (by decide) (fun r79 e79 => ?_)
      refine t_iceq (t := 104) dX5_readAtom_80 (by decide) (fun h80 => False.elim (by omega)) (fun h80 => ?_)
      refine r_aloadR0 dX5_readAtom_83 ?_
      refine m_getV (x := (f A 10)) zf_RX5_54 rfl dX5_readAtom_84 hr.1 (rfl) ?_
      refine t_ifne (t := 100) dX5_readAtom_87 (by decide) (fun h87 => False.elim (by omega)) (fun h87 => ?_)
      refine r_aloadR0 dX5_readAtom_90 ?_
      refine m_getR (q := (ca (wdP B n p))) zf_RX5_37 rfl dX5_readAtom_91 hr.1 (zu_at.trans hv3) ?_
      refine k_callV0 zm_RX5_200 dX5_readAtom_94 (fun U hU => (ko.2.2.2.2.1 _ (Nat.lt_succ_of_le wd_le) U hU).1) (Nat.le_of_ble_eq_true rfl) (Nat.le_of_ble_eq_true rfl) (Nat.le_of_ble_eq_true rfl) (Nat.le_of_ble_eq_true rfl) (Nat.le_of_ble_eq_true rfl) (s_X10_isOfLikesAlone (i := wdP B n p) G kw ko (by omega) (fun r94 e94_z => ?_))
      refine t_ifne (t := 104) dX5_readAtom_97 (by decide) (fun h97 => ?_) (fun h97 => False.elim (e94_z.elim (fun h_z => by omega) (fun h_z => h_z.2 hna)))
      refine n_iconst dX5_readAtom_104 (by decide) (fun r104 e104_z => ?_)
      refine r_istore2 dX5_readAtom_105 rfl ?_
      refine r_iload2 dX5_readAtom_106 ?_
      refine t_ifne (t := 115) dX5_readAtom_107 (by decide) (fun h107 => False.elim (by omega)) (fun h107 => ?_)
      refine r_aloadR0 dX5_readAtom_110 ?_
      refine q_callV0 zm_RX5_80 dX5_readAtom_111 hr.1 (by decide) rfl (Nat.le_of_ble_eq_true rfl) (Nat.le_of_ble_eq_true rfl) (Nat.le_of_ble_eq_true rfl) (Nat.le_of_ble_eq_true rfl) (Nat.le_of_ble_eq_true rfl) (s_X5_refuseToken G hr htk (fun r111 g111 e111_z o111 l111 => ?_))
      refine m_zret dX5_readAtom_114 rfl (by omega) (Nat.le_of_ble_eq_true rfl) (Nat.le_of_ble_eq_true rfl) ?_
      exact hQ _ _ g111 (frM_su o111 (by decide) (by decide)) (fun h_z => absurd h_z hba.1) (fun _ => ⟨e111_z, l111⟩)
  refine r_aloadR0 dX5_readAtom_0 ?_
  refine m_getV (x := (f A 4)) zf_RX5_25 rfl dX5_readAtom_1 hr.1 (rfl) ?_
  refine n_bipush dX5_readAtom_4 (by decide) (fun r4 e4_z => ?_)
  refine t_icne (t := 42) dX5_readAtom_6 (by decide) (fun h6 => ?_) (fun h6 => False.elim (by omega))
  refine r_aloadR0 dX5_readAtom_42 ?_
  refine m_getV (x := (f A 4)) zf_RX5_25 rfl dX5_readAtom_43 hr.1 (rfl) ?_
  refine n_iconst dX5_readAtom_46 (by decide) (fun r46 e46 => ?_)
  refine t_icne (t := 64) dX5_readAtom_47 (by decide) (fun h47 => ?_) (fun h47 => False.elim (by omega))
  refine r_aloadR0 dX5_readAtom_64 ?_
  refine m_getV (x := (f A 4)) zf_RX5_25 rfl dX5_readAtom_65 hr.1 (rfl) ?_
  refine n_iconst dX5_readAtom_68 (by decide) (fun r68 e68 => ?_)
  refine t_icne (t := 104) dX5_readAtom_69 (by decide) (fun h69 => ?_) (fun h69 => False.elim (by omega))
  refine n_iconst dX5_readAtom_104 (by decide) (fun r104 e104_z => ?_)
  refine r_istore2 dX5_readAtom_105 rfl ?_
  refine r_iload2 dX5_readAtom_106 ?_
  refine t_ifne (t := 115) dX5_readAtom_107 (by decide) (fun h107 => False.elim (by omega)) (fun h107 => ?_)
  refine r_aloadR0 dX5_readAtom_110 ?_
  refine q_callV0 zm_RX5_80 dX5_readAtom_111 hr.1 (by decide) rfl (Nat.le_of_ble_eq_true rfl) (Nat.le_of_ble_eq_true rfl) (Nat.le_of_ble_eq_true rfl) (Nat.le_of_ble_eq_true rfl) (Nat.le_of_ble_eq_true rfl) (s_X5_refuseToken G hr htk (fun r111 g111 e111_z o111 l111 => ?_))
  refine m_zret dX5_readAtom_114 rfl (by omega) (Nat.le_of_ble_eq_true rfl) (Nat.le_of_ble_eq_true rfl) ?_
  exact hQ _ _ g111 (frM_su o111 (by decide) (by decide)) (fun h_z => absurd h_z hba.1) (fun _ => ⟨e111_z, l111⟩)
set_option maxHeartbeats 4000000 in
set_option maxRecDepth 100000 in
theorem s_X5_readTerm_4 {g : zGT} {w : zW} {f : Nat → Nat → Int32} {j : Nat → Nat → Int64} {A tq nq : Nat} {v : Option Nat} {B : Nat → Nat} {n : Nat} {ca wa wv : Nat → Nat} {kq ta sm gq gv : Nat} {p lm u : Nat} {x : Int32} {Q : Option Value → zW → Prop} {QX : String → zW → Prop} (G : zGok g) (hr : shRd w A tq nq) (kw : kWd g wa wv kq) (ko : kWo g ca wa wv ta sm gq gv) (htp : tpR B n f A tq) (htk : tkR ca B n f v A p) (hx : x.toInt = 2) (hol : (f A 10).toInt = if lm = 5 then 1 else 0) (hu : (f A 9).toInt = (u : Nat)) (hup : u ≤ p) (hQ : ∀ (b : Int32) v2 f2_z, frM A [8] [2, 3, 4, 5, 9, 11, 12] f f2_z → ((chP B n (atP B n (if lm = 5 then 8 else 6) 4) (opT B n) p).1 = 0 → b.toInt = 1 ∧ tkR ca B n f2_z v2 A (chP B n (atP B n (if lm = 5 then 8 else 6) 4) (opT B n) p).2.1 ∧ okR f f2_z A u (chP B n (atP B n (if lm = 5 then 8 else 6) 4) (opT B n) p).2.2) → ((chP B n (atP B n (if lm = 5 then 8 else 6) 4) (opT B n) p).1 ≠ 0 → b.toInt = 0 ∧ flR f2_z A (chP B n (atP B n (if lm = 5 then 8 else 6) 4) (opT B n) p).1 (chP B n (atP B n (if lm = 5 then 8 else 6) 4) (opT B n) p).2.1) → Q (some (.int b)) (zM (wW w A v2) f2_z j)) : zC g 27 yX5_readTerm cX5_readTerm 3 (some .boolean) [.ref A, .int x] (zM (wW w A v) f j) (0, 0) Q QX := by
  refine zC_of G (by decide +kernel) (Nat.le_of_ble_eq_true rfl) ?_
  have ht := hr.2.2.2.2.2.2
  have h4 := htk.2.2.2.1
  have hpn := htk.1
  have h900 := htp.2.1
  have hgd : ∀ s, s ≤ n → gdP n false (if lm = 5 then 8 else 6) (1 + 2 * 4) s ((atP B n (if lm = 5 then 8 else 6) 4) s) := gd_at (by split <;> decide) 4
  have lp : ∀ (mz : Nat) (uu : Int32) (i : Nat) (k : Nat) (ps : Nat) (c : List Nat) (f2_z : Nat → Nat → Int32) (vv : Option Nat), uu.toInt = (i : Nat) → frM A [8] [2, 3, 4, 5, 9, 11, 12] f f2_z → tkR ca B n f2_z vv A ps → okR f f2_z A u c → p + i < ps → ps ≤ n → c.length + p ≤ ps → n ≤ k + ps → lpP B n (atP B n (if lm = 5 then 8 else 6) 4) (opT B n) k (0, ps, c) = chP B n (atP B n (if lm = 5 then 8 else 6) 4) (opT B n) p → k < mz → zR (zV g 27 yX5_readTerm 3 (some .boolean) (0, 0) Q QX) cX5_readTerm yX5_readTerm.cls 12 [some (.ref A), some (.int x), some (.int uu)] [] (zM (wW w A vv) f2_z j) (0, 0) := by
    intro mz
    induction mz with
    | zero =>
      intro uu i k ps c f2_z vv hui ofr htk2 hok hpi hps hcl hnk hR hmz
      exact absurd hmz (Nat.not_lt_zero _)
    | succ mz ih =>
      intro uu i k ps c f2_z vv hui ofr htk2 hok hpi hps hcl hnk hR hmz
      have htp2 := tpR_of htp ht ofr (by decide)
      have h1 := htp2.1
      have htk4 := htk2.2.2.2.1
      have hi9 : i < n := by omega
      by_cases hc_z : tkP B n ps = 42
      · have hop : (opT B n) ps = 2005 := if_pos hc_z
        have hop0 : (opT B n) ps ≠ 0 := by rw [hop]; decide
        have hln := tk_lt (B := B) (n := n) (s := ps) (by rw [hc_z]; decide)
        obtain ⟨k2_z, rfl⟩ : ∃ k2_z, k = k2_z + 1 := ⟨k - 1, by omega⟩
        have hnx := nxP_gt (B := B) hln
        have gq := hgd _ hnx.2
        by_cases hq : ((atP B n (if lm = 5 then 8 else 6) 4) (nxP B n ps)).1 = 0
        · obtain ⟨y1, y2, y3, y4⟩ := gq.1 hq
          refine r_iload2 dX5_readTerm_12 ?_
          refine r_aloadR0 dX5_readTerm_13 ?_
          refine m_getV (x := (f2_z A 1)) zf_RX5_15 rfl dX5_readTerm_14 hr.1 (rfl) ?_
          refine t_icge (t := 56) dX5_readTerm_17 (by decide) (fun h17 => False.elim (by omega)) (fun h17 => ?_)
          refine r_aloadR0 dX5_readTerm_20 ?_
          refine m_getV (x := (f2_z A 4)) zf_RX5_25 rfl dX5_readTerm_21 hr.1 (rfl) ?_
          refine n_bipush dX5_readTerm_24 (by decide) (fun r24 e24_z => ?_)
          refine t_icne (t := 56) dX5_readTerm_26 (by decide) (fun h26 => False.elim (by omega)) (fun h26 => ?_)
          refine r_aloadR0 dX5_readTerm_29 ?_
          refine q_callV0 zm_RX5_73 dX5_readTerm_30 hr.1 (by decide) rfl (Nat.le_of_ble_eq_true rfl) (Nat.le_of_ble_eq_true rfl) (Nat.le_of_ble_eq_true rfl) (Nat.le_of_ble_eq_true rfl) (Nat.le_of_ble_eq_true rfl) (s_X5_next (p := teP B n ps) G hr kw ko htp2 htk2.2.1 (teP_le htk2.1) htk2.2.2.2.2.2.2 (fun v30 g30 o30 t30 => ?_))
          have t30 : tkR ca B n g30 v30 A (nxP B n ps) := t30
          have htpn := tpR_of htp2 ht o30 (by decide)
          have wn : g30 (A + 8) = f2_z (A + 8) := o30.2.1 8 (by decide) (by decide) (by decide)
          refine r_aloadR0 dX5_readTerm_33 ?_
          refine r_iload1 dX5_readTerm_34 ?_
          refine q_callV1 zm_RX5_194 dX5_readTerm_35 hr.1 (by decide) rfl (Nat.le_of_ble_eq_true rfl) (Nat.le_of_ble_eq_true rfl) (Nat.le_of_ble_eq_true rfl) (Nat.le_of_ble_eq_true rfl) (Nat.le_of_ble_eq_true rfl) (s_X5_readAtom_4 (lm := lm) (u := u + c.length) G hr kw ko htpn t30 hx (by rw [o30.2.2 10 (by decide), ofr.2.2 10 (by decide)]; exact hol) (by rw [o30.2.2 9 (by decide)]; exact hok.1) (by omega) (fun rs vs gs os as bs => ?_))
          have as2 : ((atP B n (if lm = 5 then 8 else 6) 4) (nxP B n ps)).1 = 0 → rs.toInt = 1 ∧ tkR ca B n gs vs A ((atP B n (if lm = 5 then 8 else 6) 4) (nxP B n ps)).2.1 ∧ okR g30 gs A (u + c.length) ((atP B n (if lm = 5 then 8 else 6) 4) (nxP B n ps)).2.2 := as
          have bs2 : ((atP B n (if lm = 5 then 8 else 6) 4) (nxP B n ps)).1 ≠ 0 → rs.toInt = 0 ∧ flR gs A ((atP B n (if lm = 5 then 8 else 6) 4) (nxP B n ps)).1 ((atP B n (if lm = 5 then 8 else 6) 4) (nxP B n ps)).2.1 := bs
          have ofs : frM A [8] [2, 3, 4, 5, 9, 11, 12] f gs := frM_tr ofr (frM_tr (frM_su o30 (by decide) (by decide)) os)
          obtain ⟨cs, ts, ks⟩ := as2 hq
          refine t_ifne (t := 43) dX5_readTerm_38 (by decide) (fun h38 => ?_) (fun h38 => False.elim (by omega))
          refine r_aloadR0 dX5_readTerm_43 ?_
          refine n_sipush dX5_readTerm_44 (by decide) (fun r44 e44 => ?_)
          refine q_callV1 zm_RX5_173 dX5_readTerm_47 hr.1 (by decide) rfl (Nat.le_of_ble_eq_true rfl) (Nat.le_of_ble_eq_true rfl) (Nat.le_of_ble_eq_true rfl) (Nat.le_of_ble_eq_true rfl) (Nat.le_of_ble_eq_true rfl) (s_X5_emit (u := u + c.length + ((atP B n (if lm = 5 then 8 else 6) 4) (nxP B n ps)).2.2.length) G hr ks.1 (by omega) (fun g47 o47 a47 b47 c47 => ?_))
          refine n_iinc2 dX5_readTerm_50 (by decide) rfl (by omega) (fun r50 e50 => ?_)
          refine r_goto (t := 12) dX5_readTerm_53 (by decide) ?_
          refine ih _ (i + 1) k2_z ((atP B n (if lm = 5 then 8 else 6) 4) (nxP B n ps)).2.1 (c ++ ((atP B n (if lm = 5 then 8 else 6) 4) (nxP B n ps)).2.2 ++ [(opT B n) ps]) g47 _ (by omega) (frM_tr ofs (frM_su o47 (by decide) (by decide))) (tkR_of ts o47 (by decide) (by decide) (by decide) (by decide)) (okR_ap (okR_ap hok (okR_cg ks wn rfl rfl)) ?_) (by omega) y2 ?_ (by omega) ?_ (by omega)
          · rw [List.length_append, ← Nat.add_assoc, hop]
            exact okR_one a47 b47 c47 (by omega)
          · rw [List.length_append, List.length_append, List.length_singleton]
            omega
          · exact (lpP_on (r := (0, ps, c)) rfl hop0 hq).symm.trans hR
        · have hv : ((atP B n (if lm = 5 then 8 else 6) 4) (nxP B n ps)) = chP B n (atP B n (if lm = 5 then 8 else 6) 4) (opT B n) p := (lpP_sub (k := k2_z) (r := (0, ps, c)) rfl hop0 hq).symm.trans hR
          refine r_iload2 dX5_readTerm_12 ?_
          refine r_aloadR0 dX5_readTerm_13 ?_
          refine m_getV (x := (f2_z A 1)) zf_RX5_15 rfl dX5_readTerm_14 hr.1 (rfl) ?_
          refine t_icge (t := 56) dX5_readTerm_17 (by decide) (fun h17 => False.elim (by omega)) (fun h17 => ?_)
          refine r_aloadR0 dX5_readTerm_20 ?_
          refine m_getV (x := (f2_z A 4)) zf_RX5_25 rfl dX5_readTerm_21 hr.1 (rfl) ?_
          refine n_bipush dX5_readTerm_24 (by decide) (fun r24 e24_z => ?_)
          refine t_icne (t := 56) dX5_readTerm_26 (by decide) (fun h26 => False.elim (by omega)) (fun h26 => ?_)
          refine r_aloadR0 dX5_readTerm_29 ?_
          refine q_callV0 zm_RX5_73 dX5_readTerm_30 hr.1 (by decide) rfl (Nat.le_of_ble_eq_true rfl) (Nat.le_of_ble_eq_true rfl) (Nat.le_of_ble_eq_true rfl) (Nat.le_of_ble_eq_true rfl) (Nat.le_of_ble_eq_true rfl) (s_X5_next (p := teP B n ps) G hr kw ko htp2 htk2.2.1 (teP_le htk2.1) htk2.2.2.2.2.2.2 (fun v30 g30 o30 t30 => ?_))
          have t30 : tkR ca B n g30 v30 A (nxP B n ps) := t30
          have htpn := tpR_of htp2 ht o30 (by decide)
          have wn : g30 (A + 8) = f2_z (A + 8) := o30.2.1 8 (by decide) (by decide) (by decide)
          refine r_aloadR0 dX5_readTerm_33 ?_
          refine r_iload1 dX5_readTerm_34 ?_
          refine q_callV1 zm_RX5_194 dX5_readTerm_35 hr.1 (by decide) rfl (Nat.le_of_ble_eq_true rfl) (Nat.le_of_ble_eq_true rfl) (Nat.le_of_ble_eq_true rfl) (Nat.le_of_ble_eq_true rfl) (Nat.le_of_ble_eq_true rfl) (s_X5_readAtom_4 (lm := lm) (u := u + c.length) G hr kw ko htpn t30 hx (by rw [o30.2.2 10 (by decide), ofr.2.2 10 (by decide)]; exact hol) (by rw [o30.2.2 9 (by decide)]; exact hok.1) (by omega) (fun rs vs gs os as bs => ?_))
          have as2 : ((atP B n (if lm = 5 then 8 else 6) 4) (nxP B n ps)).1 = 0 → rs.toInt = 1 ∧ tkR ca B n gs vs A ((atP B n (if lm = 5 then 8 else 6) 4) (nxP B n ps)).2.1 ∧ okR g30 gs A (u + c.length) ((atP B n (if lm = 5 then 8 else 6) 4) (nxP B n ps)).2.2 := as
          have bs2 : ((atP B n (if lm = 5 then 8 else 6) 4) (nxP B n ps)).1 ≠ 0 → rs.toInt = 0 ∧ flR gs A ((atP B n (if lm = 5 then 8 else 6) 4) (nxP B n ps)).1 ((atP B n (if lm = 5 then 8 else 6) 4) (nxP B n ps)).2.1 := bs
          have ofs : frM A [8] [2, 3, 4, 5, 9, 11, 12] f gs := frM_tr ofr (frM_tr (frM_su o30 (by decide) (by decide)) os)
          obtain ⟨cs, ls⟩ := bs2 hq
          refine t_ifne (t := 43) dX5_readTerm_38 (by decide) (fun h38 => False.elim (by omega)) (fun h38 => ?_)
          refine n_iconst dX5_readTerm_41 (by decide) (fun r41 e41_z => ?_)
          refine m_zret dX5_readTerm_42 rfl (by omega) (Nat.le_of_ble_eq_true rfl) (Nat.le_of_ble_eq_true rfl) ?_
          rw [← hv] at hQ
          exact hQ _ _ gs ofs (fun h_z => absurd h_z hq) (fun _ => ⟨e41_z, ls⟩)
      have hop : (opT B n) ps = 0 := if_neg hc_z
      have hv := (lpP_end (B := B) (n := n) (k := k) (sub := (atP B n (if lm = 5 then 8 else 6) 4)) (r := (0, ps, c)) hop).symm.trans hR
      refine r_iload2 dX5_readTerm_12 ?_
      refine r_aloadR0 dX5_readTerm_13 ?_
      refine m_getV (x := (f2_z A 1)) zf_RX5_15 rfl dX5_readTerm_14 hr.1 (rfl) ?_
      refine t_icge (t := 56) dX5_readTerm_17 (by decide) (fun h17 => False.elim (by omega)) (fun h17 => ?_)
      refine r_aloadR0 dX5_readTerm_20 ?_
      refine m_getV (x := (f2_z A 4)) zf_RX5_25 rfl dX5_readTerm_21 hr.1 (rfl) ?_
      refine n_bipush dX5_readTerm_24 (by decide) (fun r24 e24_z => ?_)
      refine t_icne (t := 56) dX5_readTerm_26 (by decide) (fun h26 => ?_) (fun h26 => False.elim (by omega))
      refine n_iconst dX5_readTerm_56 (by decide) (fun r56 e56 => ?_)
      refine m_zret dX5_readTerm_57 rfl (by omega) (Nat.le_of_ble_eq_true rfl) (Nat.le_of_ble_eq_true rfl) ?_
      rw [← hv] at hQ
      exact hQ _ _ f2_z ofr (fun _ => ⟨e56, htk2, hok⟩) (fun h_z => absurd rfl h_z)
  have gp := hgd p hpn
  by_cases hq : ((atP B n (if lm = 5 then 8 else 6) 4) p).1 = 0
  · obtain ⟨y1, y2, y3, y4⟩ := gp.1 hq
    have hz : ((atP B n (if lm = 5 then 8 else 6) 4) p) = (0, ((atP B n (if lm = 5 then 8 else 6) 4) p).2.1, ((atP B n (if lm = 5 then 8 else 6) 4) p).2.2) := Prod.ext hq rfl
    refine r_aloadR0 dX5_readTerm_0 ?_
    refine r_iload1 dX5_readTerm_1 ?_
    refine q_callV1 zm_RX5_194 dX5_readTerm_2 hr.1 (by decide) rfl (Nat.le_of_ble_eq_true rfl) (Nat.le_of_ble_eq_true rfl) (Nat.le_of_ble_eq_true rfl) (Nat.le_of_ble_eq_true rfl) (Nat.le_of_ble_eq_true rfl) (s_X5_readAtom_4 G hr kw ko htp htk hx hol hu hup (fun r2 v2 g2 o2 a2 b2 => ?_))
    have a2b : ((atP B n (if lm = 5 then 8 else 6) 4) p).1 = 0 → r2.toInt = 1 ∧ tkR ca B n g2 v2 A ((atP B n (if lm = 5 then 8 else 6) 4) p).2.1 ∧ okR f g2 A u ((atP B n (if lm = 5 then 8 else 6) 4) p).2.2 := a2
    have b2b : ((atP B n (if lm = 5 then 8 else 6) 4) p).1 ≠ 0 → r2.toInt = 0 ∧ flR g2 A ((atP B n (if lm = 5 then 8 else 6) 4) p).1 ((atP B n (if lm = 5 then 8 else 6) 4) p).2.1 := b2
    obtain ⟨c2_z, t2, k2_z⟩ := a2b hq
    refine t_ifne (t := 10) dX5_readTerm_5 (by decide) (fun h5 => ?_) (fun h5 => False.elim (by omega))
    refine n_iconst dX5_readTerm_10 (by decide) (fun r10 e10_z => ?_)
    refine r_istore2 dX5_readTerm_11 rfl ?_
    exact lp (n + 1) _ 0 n ((atP B n (if lm = 5 then 8 else 6) 4) p).2.1 ((atP B n (if lm = 5 then 8 else 6) 4) p).2.2 g2 _ (by omega) o2 t2 k2_z (by omega) y2 y3 (by omega) (by rw [← hz]; rfl) (Nat.lt_succ_self n)
  · have hv : chP B n (atP B n (if lm = 5 then 8 else 6) 4) (opT B n) p = ((atP B n (if lm = 5 then 8 else 6) 4) p) := lpP_bad hq
    rw [hv] at hQ
    refine r_aloadR0 dX5_readTerm_0 ?_
    refine r_iload1 dX5_readTerm_1 ?_
    refine q_callV1 zm_RX5_194 dX5_readTerm_2 hr.1 (by decide) rfl (Nat.le_of_ble_eq_true rfl) (Nat.le_of_ble_eq_true rfl) (Nat.le_of_ble_eq_true rfl) (Nat.le_of_ble_eq_true rfl) (Nat.le_of_ble_eq_true rfl) (s_X5_readAtom_4 G hr kw ko htp htk hx hol hu hup (fun r2 v2 g2 o2 a2 b2 => ?_))
    have a2b : ((atP B n (if lm = 5 then 8 else 6) 4) p).1 = 0 → r2.toInt = 1 ∧ tkR ca B n g2 v2 A ((atP B n (if lm = 5 then 8 else 6) 4) p).2.1 ∧ okR f g2 A u ((atP B n (if lm = 5 then 8 else 6) 4) p).2.2 := a2
    have b2b : ((atP B n (if lm = 5 then 8 else 6) 4) p).1 ≠ 0 → r2.toInt = 0 ∧ flR g2 A ((atP B n (if lm = 5 then 8 else 6) 4) p).1 ((atP B n (if lm = 5 then 8 else 6) 4) p).2.1 := b2
    obtain ⟨c2_z, l2⟩ := b2b hq
    refine t_ifne (t := 10) dX5_readTerm_5 (by decide) (fun h5 => False.elim (by omega)) (fun h5 => ?_)
    refine n_iconst dX5_readTerm_8 (by decide) (fun r8 e8 => ?_)
    refine m_zret dX5_readTerm_9 rfl (by omega) (Nat.le_of_ble_eq_true rfl) (Nat.le_of_ble_eq_true rfl) ?_
    exact hQ _ _ g2 o2 (fun h_z => absurd h_z hq) (fun _ => ⟨e8, l2⟩)
set_option maxHeartbeats 4000000 in
set_option maxRecDepth 100000 in
theorem s_X5_readSum_4 {g : zGT} {w : zW} {f : Nat → Nat → Int32} {j : Nat → Nat → Int64} {A tq nq : Nat} {v : Option Nat} {B : Nat → Nat} {n : Nat} {ca wa wv : Nat → Nat} {kq ta sm gq gv : Nat} {p lm u : Nat} {x : Int32} {Q : Option Value → zW → Prop} {QX : String → zW → Prop} (G : zGok g) (hr : shRd w A tq nq) (kw : kWd g wa wv kq) (ko : kWo g ca wa wv ta sm gq gv) (htp : tpR B n f A tq) (htk : tkR ca B n f v A p) (hx : x.toInt = 2) (hol : (f A 10).toInt = if lm = 5 then 1 else 0) (hu : (f A 9).toInt = (u : Nat)) (hup : u ≤ p) (hQ : ∀ (b : Int32) v2 f2_z, frM A [8] [2, 3, 4, 5, 9, 11, 12] f f2_z → ((chP B n (chP B n (atP B n (if lm = 5 then 8 else 6) 4) (opT B n)) (opS B n) p).1 = 0 → b.toInt = 1 ∧ tkR ca B n f2_z v2 A (chP B n (chP B n (atP B n (if lm = 5 then 8 else 6) 4) (opT B n)) (opS B n) p).2.1 ∧ okR f f2_z A u (chP B n (chP B n (atP B n (if lm = 5 then 8 else 6) 4) (opT B n)) (opS B n) p).2.2) → ((chP B n (chP B n (atP B n (if lm = 5 then 8 else 6) 4) (opT B n)) (opS B n) p).1 ≠ 0 → b.toInt = 0 ∧ flR f2_z A (chP B n (chP B n (atP B n (if lm = 5 then 8 else 6) 4) (opT B n)) (opS B n) p).1 (chP B n (chP B n (atP B n (if lm = 5 then 8 else 6) 4) (opT B n)) (opS B n) p).2.1) → Q (some (.int b)) (zM (wW w A v2) f2_z j)) : zC g 28 yX5_readSum cX5_readSum 4 (some .boolean) [.ref A, .int x] (zM (wW w A v) f j) (0, 0) Q QX := by
  refine zC_of G (by decide +kernel) (Nat.le_of_ble_eq_true rfl) ?_
  have ht := hr.2.2.2.2.2.2
  have h4 := htk.2.2.2.1
  have hpn := htk.1
  have h900 := htp.2.1
  have hgd : ∀ s, s ≤ n → gdP n false (if lm = 5 then 8 else 6) (1 + 2 * 4 + 1) s ((chP B n (atP B n (if lm = 5 then 8 else 6) 4) (opT B n)) s) := fun s hs9 => gd_ch (gd_at (by split <;> decide) 4) hop_T hs9
  have lp : ∀ (mz : Nat) (uu : Int32) (i : Nat) (k : Nat) (ps : Nat) (c : List Nat) (f2_z : Nat → Nat → Int32) (vv : Option Nat) (v3_ : Option Value), uu.toInt = (i : Nat) → frM A [8] [2, 3, 4, 5, 9, 11, 12] f f2_z → tkR ca B n f2_z vv A ps → okR f f2_z A u c → p + i < ps → ps ≤ n → c.length + p ≤ ps → n ≤ k + ps → lpP B n (chP B n (atP B n (if lm = 5 then 8 else 6) 4) (opT B n)) (opS B n) k (0, ps, c) = chP B n (chP B n (atP B n (if lm = 5 then 8 else 6) 4) (opT B n)) (opS B n) p → k < mz → zR (zV g 28 yX5_readSum 4 (some .boolean) (0, 0) Q QX) cX5_readSum yX5_readSum.cls 12 [some (.ref A), some (.int x), some (.int uu), v3_] [] (zM (wW w A vv) f2_z j) (0, 0) := by
    intro mz
    induction mz with
    | zero =>
      intro uu i k ps c f2_z vv v3_ hui ofr htk2 hok hpi hps hcl hnk hR hmz
      exact absurd hmz (Nat.not_lt_zero _)
    | succ mz ih =>
      intro uu i k ps c f2_z vv v3_ hui ofr htk2 hok hpi hps hcl hnk hR hmz
      have htp2 := tpR_of htp ht ofr (by decide)
      have h1 := htp2.1
      have htk4 := htk2.2.2.2.1
      have hi9 : i < n := by omega
      by_cases hc_z : tkP B n ps = 43
      · have hop : (opS B n) ps = 2003 := if_pos hc_z
        have hop0 : (opS B n) ps ≠ 0 := by rw [hop]; decide
        have hln := tk_lt (B := B) (n := n) (s := ps) (by rw [hc_z]; decide)
        obtain ⟨k2_z, rfl⟩ : ∃ k2_z, k = k2_z + 1 := ⟨k - 1, by omega⟩
        have hnx := nxP_gt (B := B) hln
        have gq := hgd _ hnx.2
        by_cases hq : ((chP B n (atP B n (if lm = 5 then 8 else 6) 4) (opT B n)) (nxP B n ps)).1 = 0
        · obtain ⟨y1, y2, y3, y4⟩ := gq.1 hq
          refine r_iload2 dX5_readSum_12 ?_
          refine r_aloadR0 dX5_readSum_13 ?_
          refine m_getV (x := (f2_z A 1)) zf_RX5_15 rfl dX5_readSum_14 hr.1 (rfl) ?_
          refine t_icge (t := 82) dX5_readSum_17 (by decide) (fun h17 => False.elim (by omega)) (fun h17 => ?_)
          refine r_aloadR0 dX5_readSum_20 ?_
          refine m_getV (x := (f2_z A 4)) zf_RX5_25 rfl dX5_readSum_21 hr.1 (rfl) ?_
          refine n_bipush dX5_readSum_24 (by decide) (fun r24 e24_z => ?_)
          refine t_iceq (t := 38) dX5_readSum_26 (by decide) (fun h26 => ?_) (fun h26 => False.elim (by omega))
          refine r_aloadR0 dX5_readSum_38 ?_
          refine m_getV (x := (f2_z A 4)) zf_RX5_25 rfl dX5_readSum_39 hr.1 (rfl) ?_
          refine n_bipush dX5_readSum_42 (by decide) (fun r42 e42_z => ?_)
          refine t_icne (t := 53) dX5_readSum_44 (by decide) (fun h44 => False.elim (by omega)) (fun h44 => ?_)
          refine n_sipush dX5_readSum_47 (by decide) (fun r47 e47 => ?_)
          refine r_goto (t := 56) dX5_readSum_50 (by decide) ?_
          refine r_istore3 dX5_readSum_56 rfl ?_
          refine r_aloadR0 dX5_readSum_57 ?_
          refine q_callV0 zm_RX5_73 dX5_readSum_58 hr.1 (by decide) rfl (Nat.le_of_ble_eq_true rfl) (Nat.le_of_ble_eq_true rfl) (Nat.le_of_ble_eq_true rfl) (Nat.le_of_ble_eq_true rfl) (Nat.le_of_ble_eq_true rfl) (s_X5_next (p := teP B n ps) G hr kw ko htp2 htk2.2.1 (teP_le htk2.1) htk2.2.2.2.2.2.2 (fun v58 g58 o58 t58 => ?_))
          have t58 : tkR ca B n g58 v58 A (nxP B n ps) := t58
          have htpn := tpR_of htp2 ht o58 (by decide)
          have wn : g58 (A + 8) = f2_z (A + 8) := o58.2.1 8 (by decide) (by decide) (by decide)
          refine r_aloadR0 dX5_readSum_61 ?_
          refine r_iload1 dX5_readSum_62 ?_
          refine q_callV1 zm_RX5_191 dX5_readSum_63 hr.1 (by decide) rfl (Nat.le_of_ble_eq_true rfl) (Nat.le_of_ble_eq_true rfl) (Nat.le_of_ble_eq_true rfl) (Nat.le_of_ble_eq_true rfl) (Nat.le_of_ble_eq_true rfl) (s_X5_readTerm_4 (lm := lm) (u := u + c.length) G hr kw ko htpn t58 hx (by rw [o58.2.2 10 (by decide), ofr.2.2 10 (by decide)]; exact hol) (by rw [o58.2.2 9 (by decide)]; exact hok.1) (by omega) (fun rs vs gs os as bs => ?_))
          have as2 : ((chP B n (atP B n (if lm = 5 then 8 else 6) 4) (opT B n)) (nxP B n ps)).1 = 0 → rs.toInt = 1 ∧ tkR ca B n gs vs A ((chP B n (atP B n (if lm = 5 then 8 else 6) 4) (opT B n)) (nxP B n ps)).2.1 ∧ okR g58 gs A (u + c.length) ((chP B n (atP B n (if lm = 5 then 8 else 6) 4) (opT B n)) (nxP B n ps)).2.2 := as
          have bs2 : ((chP B n (atP B n (if lm = 5 then 8 else 6) 4) (opT B n)) (nxP B n ps)).1 ≠ 0 → rs.toInt = 0 ∧ flR gs A ((chP B n (atP B n (if lm = 5 then 8 else 6) 4) (opT B n)) (nxP B n ps)).1 ((chP B n (atP B n (if lm = 5 then 8 else 6) 4) (opT B n)) (nxP B n ps)).2.1 := bs
          have ofs : frM A [8] [2, 3, 4, 5, 9, 11, 12] f gs := frM_tr ofr (frM_tr (frM_su o58 (by decide) (by decide)) os)
          obtain ⟨cs, ts, ks⟩ := as2 hq
          refine t_ifne (t := 71) dX5_readSum_66 (by decide) (fun h66 => ?_) (fun h66 => False.elim (by omega))
          refine r_aloadR0 dX5_readSum_71 ?_
          refine r_iload3 dX5_readSum_72 ?_
          refine q_callV1 zm_RX5_173 dX5_readSum_73 hr.1 (by decide) rfl (Nat.le_of_ble_eq_true rfl) (Nat.le_of_ble_eq_true rfl) (Nat.le_of_ble_eq_true rfl) (Nat.le_of_ble_eq_true rfl) (Nat.le_of_ble_eq_true rfl) (s_X5_emit (u := u + c.length + ((chP B n (atP B n (if lm = 5 then 8 else 6) 4) (opT B n)) (nxP B n ps)).2.2.length) G hr ks.1 (by omega) (fun g73 o73 a73 b73 c73 => ?_))
          refine n_iinc2 dX5_readSum_76 (by decide) rfl (by omega) (fun r76 e76 => ?_)
          refine r_goto (t := 12) dX5_readSum_79 (by decide) ?_
          refine ih _ (i + 1) k2_z ((chP B n (atP B n (if lm = 5 then 8 else 6) 4) (opT B n)) (nxP B n ps)).2.1 (c ++ ((chP B n (atP B n (if lm = 5 then 8 else 6) 4) (opT B n)) (nxP B n ps)).2.2 ++ [(opS B n) ps]) g73 _ _ (by omega) (frM_tr ofs (frM_su o73 (by decide) (by decide))) (tkR_of ts o73 (by decide) (by decide) (by decide) (by decide)) (okR_ap (okR_ap hok (okR_cg ks wn rfl rfl)) ?_) (by omega) y2 ?_ (by omega) ?_ (by omega)
          · rw [List.length_append, ← Nat.add_assoc, hop]
            exact okR_one a73 b73 c73 (by omega)
          · rw [List.length_append, List.length_append, List.length_singleton]
            omega
          · exact (lpP_on (r := (0, ps, c)) rfl hop0 hq).symm.trans hR
        · have hv : ((chP B n (atP B n (if lm = 5 then 8 else 6) 4) (opT B n)) (nxP B n ps)) = chP B n (chP B n (atP B n (if lm = 5 then 8 else 6) 4) (opT B n)) (opS B n) p := (lpP_sub (k := k2_z) (r := (0, ps, c)) rfl hop0 hq).symm.trans hR
          refine r_iload2 dX5_readSum_12 ?_
          refine r_aloadR0 dX5_readSum_13 ?_
          refine m_getV (x := (f2_z A 1)) zf_RX5_15 rfl dX5_readSum_14 hr.1 (rfl) ?_
          refine t_icge (t := 82) dX5_readSum_17 (by decide) (fun h17 => False.elim (by omega)) (fun h17 => ?_)
          refine r_aloadR0 dX5_readSum_20 ?_
          refine m_getV (x := (f2_z A 4)) zf_RX5_25 rfl dX5_readSum_21 hr.1 (rfl) ?_
          refine n_bipush dX5_readSum_24 (by decide) (fun r24 e24_z => ?_)
          refine t_iceq (t := 38) dX5_readSum_26 (by decide) (fun h26 => ?_) (fun h26 => False.elim (by omega))
          refine r_aloadR0 dX5_readSum_38 ?_
          refine m_getV (x := (f2_z A 4)) zf_RX5_25 rfl dX5_readSum_39 hr.1 (rfl) ?_
          refine n_bipush dX5_readSum_42 (by decide) (fun r42 e42_z => ?_)
          refine t_icne (t := 53) dX5_readSum_44 (by decide) (fun h44 => False.elim (by omega)) (fun h44 => ?_)
          refine n_sipush dX5_readSum_47 (by decide) (fun r47 e47 => ?_)
          refine r_goto (t := 56) dX5_readSum_50 (by decide) ?_
          refine r_istore3 dX5_readSum_56 rfl ?_
          refine r_aloadR0 dX5_readSum_57 ?_
          refine q_callV0 zm_RX5_73 dX5_readSum_58 hr.1 (by decide) rfl (Nat.le_of_ble_eq_true rfl) (Nat.le_of_ble_eq_true rfl) (Nat.le_of_ble_eq_true rfl) (Nat.le_of_ble_eq_true rfl) (Nat.le_of_ble_eq_true rfl) (s_X5_next (p := teP B n ps) G hr kw ko htp2 htk2.2.1 (teP_le htk2.1) htk2.2.2.2.2.2.2 (fun v58 g58 o58 t58 => ?_))
          have t58 : tkR ca B n g58 v58 A (nxP B n ps) := t58
          have htpn := tpR_of htp2 ht o58 (by decide)
          have wn : g58 (A + 8) = f2_z (A + 8) := o58.2.1 8 (by decide) (by decide) (by decide)
          refine r_aloadR0 dX5_readSum_61 ?_
          refine r_iload1 dX5_readSum_62 ?_
          refine q_callV1 zm_RX5_191 dX5_readSum_63 hr.1 (by decide) rfl (Nat.le_of_ble_eq_true rfl) (Nat.le_of_ble_eq_true rfl) (Nat.le_of_ble_eq_true rfl) (Nat.le_of_ble_eq_true rfl) (Nat.le_of_ble_eq_true rfl) (s_X5_readTerm_4 (lm := lm) (u := u + c.length) G hr kw ko htpn t58 hx (by rw [o58.2.2 10 (by decide), ofr.2.2 10 (by decide)]; exact hol) (by rw [o58.2.2 9 (by decide)]; exact hok.1) (by omega) (fun rs vs gs os as bs => ?_))
          have as2 : ((chP B n (atP B n (if lm = 5 then 8 else 6) 4) (opT B n)) (nxP B n ps)).1 = 0 → rs.toInt = 1 ∧ tkR ca B n gs vs A ((chP B n (atP B n (if lm = 5 then 8 else 6) 4) (opT B n)) (nxP B n ps)).2.1 ∧ okR g58 gs A (u + c.length) ((chP B n (atP B n (if lm = 5 then 8 else 6) 4) (opT B n)) (nxP B n ps)).2.2 := as
          have bs2 : ((chP B n (atP B n (if lm = 5 then 8 else 6) 4) (opT B n)) (nxP B n ps)).1 ≠ 0 → rs.toInt = 0 ∧ flR gs A ((chP B n (atP B n (if lm = 5 then 8 else 6) 4) (opT B n)) (nxP B n ps)).1 ((chP B n (atP B n (if lm = 5 then 8 else 6) 4) (opT B n)) (nxP B n ps)).2.1 := bs
          have ofs : frM A [8] [2, 3, 4, 5, 9, 11, 12] f gs := frM_tr ofr (frM_tr (frM_su o58 (by decide) (by decide)) os)
          obtain ⟨cs, ls⟩ := bs2 hq
          refine t_ifne (t := 71) dX5_readSum_66 (by decide) (fun h66 => False.elim (by omega)) (fun h66 => ?_)
          refine n_iconst dX5_readSum_69 (by decide) (fun r69 e69 => ?_)
          refine m_zret dX5_readSum_70 rfl (by omega) (Nat.le_of_ble_eq_true rfl) (Nat.le_of_ble_eq_true rfl) ?_
          rw [← hv] at hQ
          exact hQ _ _ gs ofs (fun h_z => absurd h_z hq) (fun _ => ⟨e69, ls⟩)
      have hcn := hc_z
      clear hc_z
      by_cases hc_z : tkP B n ps = 45
      · have hop : (opS B n) ps = 2004 := (if_neg (by omega)).trans (if_pos hc_z)
        have hop0 : (opS B n) ps ≠ 0 := by rw [hop]; decide
        have hln := tk_lt (B := B) (n := n) (s := ps) (by rw [hc_z]; decide)
        obtain ⟨k2_z, rfl⟩ : ∃ k2_z, k = k2_z + 1 := ⟨k - 1, by omega⟩
        have hnx := nxP_gt (B := B) hln
        have gq := hgd _ hnx.2
        by_cases hq : ((chP B n (atP B n (if lm = 5 then 8 else 6) 4) (opT B n)) (nxP B n ps)).1 = 0
        · obtain ⟨y1, y2, y3, y4⟩ := gq.1 hq
          refine r_iload2 dX5_readSum_12 ?_
          refine r_aloadR0 dX5_readSum_13 ?_
          refine m_getV (x := (f2_z A 1)) zf_RX5_15 rfl dX5_readSum_14 hr.1 (rfl) ?_
          refine t_icge (t := 82) dX5_readSum_17 (by decide) (fun h17 => False.elim (by omega)) (fun h17 => ?_)
          refine r_aloadR0 dX5_readSum_20 ?_
          refine m_getV (x := (f2_z A 4)) zf_RX5_25 rfl dX5_readSum_21 hr.1 (rfl) ?_
          refine n_bipush dX5_readSum_24 (by decide) (fun r24 e24_z => ?_)
          refine t_iceq (t := 38) dX5_readSum_26 (by decide) (fun h26 => False.elim (by omega)) (fun h26 => ?_)
          refine r_aloadR0 dX5_readSum_29 ?_
          refine m_getV (x := (f2_z A 4)) zf_RX5_25 rfl dX5_readSum_30 hr.1 (rfl) ?_
          refine n_bipush dX5_readSum_33 (by decide) (fun r33 e33_z => ?_)
          refine t_icne (t := 82) dX5_readSum_35 (by decide) (fun h35 => False.elim (by omega)) (fun h35 => ?_)
          refine r_aloadR0 dX5_readSum_38 ?_
          refine m_getV (x := (f2_z A 4)) zf_RX5_25 rfl dX5_readSum_39 hr.1 (rfl) ?_
          refine n_bipush dX5_readSum_42 (by decide) (fun r42 e42_z => ?_)
          refine t_icne (t := 53) dX5_readSum_44 (by decide) (fun h44 => ?_) (fun h44 => False.elim (by omega))
          refine n_sipush dX5_readSum_53 (by decide) (fun r53 e53 => ?_)
          refine r_istore3 dX5_readSum_56 rfl ?_
          refine r_aloadR0 dX5_readSum_57 ?_
          refine q_callV0 zm_RX5_73 dX5_readSum_58 hr.1 (by decide) rfl (Nat.le_of_ble_eq_true rfl) (Nat.le_of_ble_eq_true rfl) (Nat.le_of_ble_eq_true rfl) (Nat.le_of_ble_eq_true rfl) (Nat.le_of_ble_eq_true rfl) (s_X5_next (p := teP B n ps) G hr kw ko htp2 htk2.2.1 (teP_le htk2.1) htk2.2.2.2.2.2.2 (fun v58 g58 o58 t58 => ?_))
          have t58 : tkR ca B n g58 v58 A (nxP B n ps) := t58
          have htpn := tpR_of htp2 ht o58 (by decide)
          have wn : g58 (A + 8) = f2_z (A + 8) := o58.2.1 8 (by decide) (by decide) (by decide)
          refine r_aloadR0 dX5_readSum_61 ?_
          refine r_iload1 dX5_readSum_62 ?_
          refine q_callV1 zm_RX5_191 dX5_readSum_63 hr.1 (by decide) rfl (Nat.le_of_ble_eq_true rfl) (Nat.le_of_ble_eq_true rfl) (Nat.le_of_ble_eq_true rfl) (Nat.le_of_ble_eq_true rfl) (Nat.le_of_ble_eq_true rfl) (s_X5_readTerm_4 (lm := lm) (u := u + c.length) G hr kw ko htpn t58 hx (by rw [o58.2.2 10 (by decide), ofr.2.2 10 (by decide)]; exact hol) (by rw [o58.2.2 9 (by decide)]; exact hok.1) (by omega) (fun rs vs gs os as bs => ?_))
          have as2 : ((chP B n (atP B n (if lm = 5 then 8 else 6) 4) (opT B n)) (nxP B n ps)).1 = 0 → rs.toInt = 1 ∧ tkR ca B n gs vs A ((chP B n (atP B n (if lm = 5 then 8 else 6) 4) (opT B n)) (nxP B n ps)).2.1 ∧ okR g58 gs A (u + c.length) ((chP B n (atP B n (if lm = 5 then 8 else 6) 4) (opT B n)) (nxP B n ps)).2.2 := as
          have bs2 : ((chP B n (atP B n (if lm = 5 then 8 else 6) 4) (opT B n)) (nxP B n ps)).1 ≠ 0 → rs.toInt = 0 ∧ flR gs A ((chP B n (atP B n (if lm = 5 then 8 else 6) 4) (opT B n)) (nxP B n ps)).1 ((chP B n (atP B n (if lm = 5 then 8 else 6) 4) (opT B n)) (nxP B n ps)).2.1 := bs
          have ofs : frM A [8] [2, 3, 4, 5, 9, 11, 12] f gs := frM_tr ofr (frM_tr (frM_su o58 (by decide) (by decide)) os)
          obtain ⟨cs, ts, ks⟩ := as2 hq
          refine t_ifne (t := 71) dX5_readSum_66 (by decide) (fun h66 => ?_) (fun h66 => False.elim (by omega))
          refine r_aloadR0 dX5_readSum_71 ?_
          refine r_iload3 dX5_readSum_72 ?_
          refine q_callV1 zm_RX5_173 dX5_readSum_73 hr.1 (by decide) rfl (Nat.le_of_ble_eq_true rfl) (Nat.le_of_ble_eq_true rfl) (Nat.le_of_ble_eq_true rfl) (Nat.le_of_ble_eq_true rfl) (Nat.le_of_ble_eq_true rfl) (s_X5_emit (u := u + c.length + ((chP B n (atP B n (if lm = 5 then 8 else 6) 4) (opT B n)) (nxP B n ps)).2.2.length) G hr ks.1 (by omega) (fun g73 o73 a73 b73 c73 => ?_))
          refine n_iinc2 dX5_readSum_76 (by decide) rfl (by omega) (fun r76 e76 => ?_)
          refine r_goto (t := 12) dX5_readSum_79 (by decide) ?_
          refine ih _ (i + 1) k2_z ((chP B n (atP B n (if lm = 5 then 8 else 6) 4) (opT B n)) (nxP B n ps)).2.1 (c ++ ((chP B n (atP B n (if lm = 5 then 8 else 6) 4) (opT B n)) (nxP B n ps)).2.2 ++ [(opS B n) ps]) g73 _ _ (by omega) (frM_tr ofs (frM_su o73 (by decide) (by decide))) (tkR_of ts o73 (by decide) (by decide) (by decide) (by decide)) (okR_ap (okR_ap hok (okR_cg ks wn rfl rfl)) ?_) (by omega) y2 ?_ (by omega) ?_ (by omega)
          · rw [List.length_append, ← Nat.add_assoc, hop]
            exact okR_one a73 b73 c73 (by omega)
          · rw [List.length_append, List.length_append, List.length_singleton]
            omega
          · exact (lpP_on (r := (0, ps, c)) rfl hop0 hq).symm.trans hR
        · have hv : ((chP B n (atP B n (if lm = 5 then 8 else 6) 4) (opT B n)) (nxP B n ps)) = chP B n (chP B n (atP B n (if lm = 5 then 8 else 6) 4) (opT B n)) (opS B n) p := (lpP_sub (k := k2_z) (r := (0, ps, c)) rfl hop0 hq).symm.trans hR
          refine r_iload2 dX5_readSum_12 ?_
          refine r_aloadR0 dX5_readSum_13 ?_
          refine m_getV (x := (f2_z A 1)) zf_RX5_15 rfl dX5_readSum_14 hr.1 (rfl) ?_
          refine t_icge (t := 82) dX5_readSum_17 (by decide) (fun h17 => False.elim (by omega)) (fun h17 => ?_)
          refine r_aloadR0 dX5_readSum_20 ?_
          refine m_getV (x := (f2_z A 4)) zf_RX5_25 rfl dX5_readSum_21 hr.1 (rfl) ?_
          refine n_bipush dX5_readSum_24 (by decide) (fun r24 e24_z => ?_)
          refine t_iceq (t := 38) dX5_readSum_26 (by decide) (fun h26 => False.elim (by omega)) (fun h26 => ?_)
          refine r_aloadR0 dX5_readSum_29 ?_
          refine m_getV (x := (f2_z A 4)) zf_RX5_25 rfl dX5_readSum_30 hr.1 (rfl) ?_
          refine n_bipush dX5_readSum_33 (by decide) (fun r33 e33_z => ?_)
          refine t_icne (t := 82) dX5_readSum_35 (by decide) (fun h35 => False.elim (by omega)) (fun h35 => ?_)
          refine r_aloadR0 dX5_readSum_38 ?_
          refine m_getV (x := (f2_z A 4)) zf_RX5_25 rfl dX5_readSum_39 hr.1 (rfl) ?_
          refine n_bipush dX5_readSum_42 (by decide) (fun r42 e42_z => ?_)
          refine t_icne (t := 53) dX5_readSum_44 (by decide) (fun h44 => ?_) (fun h44 => False.elim (by omega))
          refine n_sipush dX5_readSum_53 (by decide) (fun r53 e53 => ?_)
          refine r_istore3 dX5_readSum_56 rfl ?_
          refine r_aloadR0 dX5_readSum_57 ?_
          refine q_callV0 zm_RX5_73 dX5_readSum_58 hr.1 (by decide) rfl (Nat.le_of_ble_eq_true rfl) (Nat.le_of_ble_eq_true rfl) (Nat.le_of_ble_eq_true rfl) (Nat.le_of_ble_eq_true rfl) (Nat.le_of_ble_eq_true rfl) (s_X5_next (p := teP B n ps) G hr kw ko htp2 htk2.2.1 (teP_le htk2.1) htk2.2.2.2.2.2.2 (fun v58 g58 o58 t58 => ?_))
          have t58 : tkR ca B n g58 v58 A (nxP B n ps) := t58
          have htpn := tpR_of htp2 ht o58 (by decide)
          have wn : g58 (A + 8) = f2_z (A + 8) := o58.2.1 8 (by decide) (by decide) (by decide)
          refine r_aloadR0 dX5_readSum_61 ?_
          refine r_iload1 dX5_readSum_62 ?_
          refine q_callV1 zm_RX5_191 dX5_readSum_63 hr.1 (by decide) rfl (Nat.le_of_ble_eq_true rfl) (Nat.le_of_ble_eq_true rfl) (Nat.le_of_ble_eq_true rfl) (Nat.le_of_ble_eq_true rfl) (Nat.le_of_ble_eq_true rfl) (s_X5_readTerm_4 (lm := lm) (u := u + c.length) G hr kw ko htpn t58 hx (by rw [o58.2.2 10 (by decide), ofr.2.2 10 (by decide)]; exact hol) (by rw [o58.2.2 9 (by decide)]; exact hok.1) (by omega) (fun rs vs gs os as bs => ?_))
          have as2 : ((chP B n (atP B n (if lm = 5 then 8 else 6) 4) (opT B n)) (nxP B n ps)).1 = 0 → rs.toInt = 1 ∧ tkR ca B n gs vs A ((chP B n (atP B n (if lm = 5 then 8 else 6) 4) (opT B n)) (nxP B n ps)).2.1 ∧ okR g58 gs A (u + c.length) ((chP B n (atP B n (if lm = 5 then 8 else 6) 4) (opT B n)) (nxP B n ps)).2.2 := as
          have bs2 : ((chP B n (atP B n (if lm = 5 then 8 else 6) 4) (opT B n)) (nxP B n ps)).1 ≠ 0 → rs.toInt = 0 ∧ flR gs A ((chP B n (atP B n (if lm = 5 then 8 else 6) 4) (opT B n)) (nxP B n ps)).1 ((chP B n (atP B n (if lm = 5 then 8 else 6) 4) (opT B n)) (nxP B n ps)).2.1 := bs
          have ofs : frM A [8] [2, 3, 4, 5, 9, 11, 12] f gs := frM_tr ofr (frM_tr (frM_su o58 (by decide) (by decide)) os)
          obtain ⟨cs, ls⟩ := bs2 hq
          refine t_ifne (t := 71) dX5_readSum_66 (by decide) (fun h66 => False.elim (by omega)) (fun h66 => ?_)
          refine n_iconst dX5_readSum_69 (by decide) (fun r69 e69 => ?_)
          refine m_zret dX5_readSum_70 rfl (by omega) (Nat.le_of_ble_eq_true rfl) (Nat.le_of_ble_eq_true rfl) ?_
          rw [← hv] at hQ
          exact hQ _ _ gs ofs (fun h_z => absurd h_z hq) (fun _ => ⟨e69, ls⟩)
      have hop : (opS B n) ps = 0 := (if_neg hcn).trans (if_neg hc_z)
      have hv := (lpP_end (B := B) (n := n) (k := k) (sub := (chP B n (atP B n (if lm = 5 then 8 else 6) 4) (opT B n))) (r := (0, ps, c)) hop).symm.trans hR
      refine r_iload2 dX5_readSum_12 ?_
      refine r_aloadR0 dX5_readSum_13 ?_
      refine m_getV (x := (f2_z A 1)) zf_RX5_15 rfl dX5_readSum_14 hr.1 (rfl) ?_
      refine t_icge (t := 82) dX5_readSum_17 (by decide) (fun h17 => False.elim (by omega)) (fun h17 => ?_)
      refine r_aloadR0 dX5_readSum_20 ?_
      refine m_getV (x := (f2_z A 4)) zf_RX5_25 rfl dX5_readSum_21 hr.1 (rfl) ?_
      refine n_bipush dX5_readSum_24 (by decide) (fun r24 e24_z => ?_)
      refine t_iceq (t := 38) dX5_readSum_26 (by decide) (fun h26 => False.elim (by omega)) (fun h26 => ?_)
      refine r_aloadR0 dX5_readSum_29 ?_
      refine m_getV (x := (f2_z A 4)) zf_RX5_25 rfl dX5_readSum_30 hr.1 (rfl) ?_
      refine n_bipush dX5_readSum_33 (by decide) (fun r33 e33_z => ?_)
      refine t_icne (t := 82) dX5_readSum_35 (by decide) (fun h35 => ?_) (fun h35 => False.elim (by omega))
      refine n_iconst dX5_readSum_82 (by decide) (fun r82 e82 => ?_)
      refine m_zret dX5_readSum_83 rfl (by omega) (Nat.le_of_ble_eq_true rfl) (Nat.le_of_ble_eq_true rfl) ?_
      rw [← hv] at hQ
      exact hQ _ _ f2_z ofr (fun _ => ⟨e82, htk2, hok⟩) (fun h_z => absurd rfl h_z)
  have gp := hgd p hpn
  by_cases hq : ((chP B n (atP B n (if lm = 5 then 8 else 6) 4) (opT B n)) p).1 = 0
  · obtain ⟨y1, y2, y3, y4⟩ := gp.1 hq
    have hz : ((chP B n (atP B n (if lm = 5 then 8 else 6) 4) (opT B n)) p) = (0, ((chP B n (atP B n (if lm = 5 then 8 else 6) 4) (opT B n)) p).2.1, ((chP B n (atP B n (if lm = 5 then 8 else 6) 4) (opT B n)) p).2.2) := Prod.ext hq rfl
    refine r_aloadR0 dX5_readSum_0 ?_
    refine r_iload1 dX5_readSum_1 ?_
    refine q_callV1 zm_RX5_191 dX5_readSum_2 hr.1 (by decide) rfl (Nat.le_of_ble_eq_true rfl) (Nat.le_of_ble_eq_true rfl) (Nat.le_of_ble_eq_true rfl) (Nat.le_of_ble_eq_true rfl) (Nat.le_of_ble_eq_true rfl) (s_X5_readTerm_4 G hr kw ko htp htk hx hol hu hup (fun r2 v2 g2 o2 a2 b2 => ?_))
    have a2b : ((chP B n (atP B n (if lm = 5 then 8 else 6) 4) (opT B n)) p).1 = 0 → r2.toInt = 1 ∧ tkR ca B n g2 v2 A ((chP B n (atP B n (if lm = 5 then 8 else 6) 4) (opT B n)) p).2.1 ∧ okR f g2 A u ((chP B n (atP B n (if lm = 5 then 8 else 6) 4) (opT B n)) p).2.2 := a2
    have b2b : ((chP B n (atP B n (if lm = 5 then 8 else 6) 4) (opT B n)) p).1 ≠ 0 → r2.toInt = 0 ∧ flR g2 A ((chP B n (atP B n (if lm = 5 then 8 else 6) 4) (opT B n)) p).1 ((chP B n (atP B n (if lm = 5 then 8 else 6) 4) (opT B n)) p).2.1 := b2
    obtain ⟨c2_z, t2, k2_z⟩ := a2b hq
    refine t_ifne (t := 10) dX5_readSum_5 (by decide) (fun h5 => ?_) (fun h5 => False.elim (by omega))
    refine n_iconst dX5_readSum_10 (by decide) (fun r10 e10_z => ?_)
    refine r_istore2 dX5_readSum_11 rfl ?_
    exact lp (n + 1) _ 0 n ((chP B n (atP B n (if lm = 5 then 8 else 6) 4) (opT B n)) p).2.1 ((chP B n (atP B n (if lm = 5 then 8 else 6) 4) (opT B n)) p).2.2 g2 _ _ (by omega) o2 t2 k2_z (by omega) y2 y3 (by omega) (by rw [← hz]; rfl) (Nat.lt_succ_self n)
  · have hv : chP B n (chP B n (atP B n (if lm = 5 then 8 else 6) 4) (opT B n)) (opS B n) p = ((chP B n (atP B n (if lm = 5 then 8 else 6) 4) (opT B n)) p) := lpP_bad hq
    rw [hv] at hQ
    refine r_aloadR0 dX5_readSum_0 ?_
    refine r_iload1 dX5_readSum_1 ?_
    refine q_callV1 zm_RX5_191 dX5_readSum_2 hr.1 (by decide) rfl (Nat.le_of_ble_eq_true rfl) (Nat.le_of_ble_eq_true rfl) (Nat.le_of_ble_eq_true rfl) (Nat.le_of_ble_eq_true rfl) (Nat.le_of_ble_eq_true rfl) (s_X5_readTerm_4 G hr kw ko htp htk hx hol hu hup (fun r2 v2 g2 o2 a2 b2 => ?_))
    have a2b : ((chP B n (atP B n (if lm = 5 then 8 else 6) 4) (opT B n)) p).1 = 0 → r2.toInt = 1 ∧ tkR ca B n g2 v2 A ((chP B n (atP B n (if lm = 5 then 8 else 6) 4) (opT B n)) p).2.1 ∧ okR f g2 A u ((chP B n (atP B n (if lm = 5 then 8 else 6) 4) (opT B n)) p).2.2 := a2
    have b2b : ((chP B n (atP B n (if lm = 5 then 8 else 6) 4) (opT B n)) p).1 ≠ 0 → r2.toInt = 0 ∧ flR g2 A ((chP B n (atP B n (if lm = 5 then 8 else 6) 4) (opT B n)) p).1 ((chP B n (atP B n (if lm = 5 then 8 else 6) 4) (opT B n)) p).2.1 := b2
    obtain ⟨c2_z, l2⟩ := b2b hq
    refine t_ifne (t := 10) dX5_readSum_5 (by decide) (fun h5 => False.elim (by omega)) (fun h5 => ?_)
    refine n_iconst dX5_readSum_8 (by decide) (fun r8 e8 => ?_)
    refine m_zret dX5_readSum_9 rfl (by omega) (Nat.le_of_ble_eq_true rfl) (Nat.le_of_ble_eq_true rfl) ?_
    exact hQ _ _ g2 o2 (fun h_z => absurd h_z hq) (fun _ => ⟨e8, l2⟩)
set_option maxHeartbeats 4000000 in
set_option maxRecDepth 100000 in
theorem s_X5_readAtom_5 {g : zGT} {w : zW} {f : Nat → Nat → Int32} {j : Nat → Nat → Int64} {A tq nq : Nat} {v : Option Nat} {B : Nat → Nat} {n : Nat} {ca wa wv : Nat → Nat} {kq ta sm gq gv : Nat} {p lm u : Nat} {x : Int32} {Q : Option Value → zW → Prop} {QX : String → zW → Prop} (G : zGok g) (hr : shRd w A tq nq) (kw : kWd g wa wv kq) (ko : kWo g ca wa wv ta sm gq gv) (htp : tpR B n f A tq) (htk : tkR ca B n f v A p) (hx : x.toInt = 1) (hol : (f A 10).toInt = if lm = 5 then 1 else 0) (hu : (f A 9).toInt = (u : Nat)) (hup : u ≤ p) (hQ : ∀ (b : Int32) v2 f2_z, frM A [8] [2, 3, 4, 5, 9, 11, 12] f f2_z → ((atP B n (if lm = 5 then 8 else 6) 5 p).1 = 0 → b.toInt = 1 ∧ tkR ca B n f2_z v2 A (atP B n (if lm = 5 then 8 else 6) 5 p).2.1 ∧ okR f f2_z A u (atP B n (if lm = 5 then 8 else 6) 5 p).2.2) → ((atP B n (if lm = 5 then 8 else 6) 5 p).1 ≠ 0 → b.toInt = 0 ∧ flR f2_z A (atP B n (if lm = 5 then 8 else 6) 5 p).1 (atP B n (if lm = 5 then 8 else 6) 5 p).2.1) → Q (some (.int b)) (zM (wW w A v2) f2_z j)) : zC g 30 yX5_readAtom cX5_readAtom 3 (some .boolean) [.ref A, .int x] (zM (wW w A v) f j) (0, 0) Q QX := by
  refine zC_of G (by decide +kernel) (Nat.le_of_ble_eq_true rfl) ?_
  have ht := hr.2.2.2.2.2.2
  have h4 := htk.2.2.2.1
  have hpn := htk.1
  have h900 := htp.2.1
  by_cases hp : tkP B n p = 40
  · have hv : atP B n (if lm = 5 then 8 else 6) 5 p = clP B n 41 (suP B n (atP B n (if lm = 5 then 8 else 6) 4) (nxP B n p)) := if_pos hp
    rw [hv] at hQ
    have hln := tk_lt (B := B) (n := n) (s := p) (by rw [hp]; decide)
    have hnx := nxP_gt (B := B) hln
    by_cases hq : (suP B n (atP B n (if lm = 5 then 8 else 6) 4) (nxP B n p)).1 = 0
    · by_cases h41 : tkP B n (suP B n (atP B n (if lm = 5 then 8 else 6) 4) (nxP B n p)).2.1 = 41
      · have hv2 : clP B n 41 (suP B n (atP B n (if lm = 5 then 8 else 6) 4) (nxP B n p)) = (0, nxP B n (suP B n (atP B n (if lm = 5 then 8 else 6) 4) (nxP B n p)).2.1, (suP B n (atP B n (if lm = 5 then 8 else 6) 4) (nxP B n p)).2.2) := (if_neg (not_not_intro hq)).trans (if_pos h41)
        rw [hv2] at hQ
        refine r_aloadR0 dX5_readAtom_0 ?_
        refine m_getV (x := (f A 4)) zf_RX5_25 rfl dX5_readAtom_1 hr.1 (rfl) ?_
        refine n_bipush dX5_readAtom_4 (by decide) (fun r4 e4_z => ?_)
        refine t_icne (t := 42) dX5_readAtom_6 (by decide) (fun h6 => False.elim (by omega)) (fun h6 => ?_)
        refine r_aloadR0 dX5_readAtom_9 ?_
        refine r_iload1 dX5_readAtom_10 ?_
        refine q_callV1 zm_RX5_185 dX5_readAtom_11 hr.1 (by decide) rfl (Nat.le_of_ble_eq_true rfl) (Nat.le_of_ble_eq_true rfl) (Nat.le_of_ble_eq_true rfl) (Nat.le_of_ble_eq_true rfl) (Nat.le_of_ble_eq_true rfl) (s_X5_goDeeper (d := 1) G hr kw ko htp hx htk (fun r11 v11 g11 o11 a11 b11 => ?_))
        obtain ⟨c11, t11⟩ := a11 (by decide)
        have htp11 := tpR_of htp ht o11 (by decide)
        have w11 : g11 (A + 8) = f (A + 8) := o11.2.1 8 (by decide) (by decide) (by decide)
        refine t_ifeq (t := 40) dX5_readAtom_14 (by decide) (fun h14 => False.elim (by omega)) (fun h14 => ?_)
        refine r_aloadR0 dX5_readAtom_17 ?_
        refine r_iload1 dX5_readAtom_18 ?_
        refine n_iconst dX5_readAtom_19 (by decide) (fun r19 e19_z => ?_)
        refine n_iadd dX5_readAtom_20 (by omega) (fun r20 e20 => ?_)
        refine q_callV1 zm_RX5_146 dX5_readAtom_21 hr.1 (by decide) rfl (Nat.le_of_ble_eq_true rfl) (Nat.le_of_ble_eq_true rfl) (Nat.le_of_ble_eq_true rfl) (Nat.le_of_ble_eq_true rfl) (Nat.le_of_ble_eq_true rfl) (s_X5_readSum_4 (lm := lm) (u := u) G hr kw ko htp11 t11 (by omega) (by rw [o11.2.2 10 (by decide)]; exact hol) (by rw [o11.2.2 9 (by decide)]; exact hu) (by omega) (fun r21 v21 g21 o21 a21 b21 => ?_))
        have a21b : (suP B n (atP B n (if lm = 5 then 8 else 6) 4) (nxP B n p)).1 = 0 → r21.toInt = 1 ∧ tkR ca B n g21 v21 A (suP B n (atP B n (if lm = 5 then 8 else 6) 4) (nxP B n p)).2.1 ∧ okR g11 g21 A u (suP B n (atP B n (if lm = 5 then 8 else 6) 4) (nxP B n p)).2.2 := a21
        have b21b : (suP B n (atP B n (if lm = 5 then 8 else 6) 4) (nxP B n p)).1 ≠ 0 → r21.toInt = 0 ∧ flR g21 A (suP B n (atP B n (if lm = 5 then 8 else 6) 4) (nxP B n p)).1 (suP B n (atP B n (if lm = 5 then 8 else 6) 4) (nxP B n p)).2.1 := b21
        have of21 : frM A [8] [2, 3, 4, 5, 9, 11, 12] f g21 := frM_tr (frM_su o11 (by decide) (by decide)) o21
        obtain ⟨c21, t21, k21⟩ := a21b hq
        refine t_ifeq (t := 40) dX5_readAtom_24 (by decide) (fun h24 => False.elim (by omega)) (fun h24 => ?_)
        refine r_aloadR0 dX5_readAtom_27 ?_
        refine n_bipush dX5_readAtom_28 (by decide) (fun r28 e28_z => ?_)
        refine q_callV1 zm_RX5_102 dX5_readAtom_30 hr.1 (by decide) rfl (Nat.le_of_ble_eq_true rfl) (Nat.le_of_ble_eq_true rfl) (Nat.le_of_ble_eq_true rfl) (Nat.le_of_ble_eq_true rfl) (Nat.le_of_ble_eq_true rfl) (s_X5_takeSign (s := (suP B n (atP B n (if lm = 5 then 8 else 6) 4) (nxP B n p)).2.1) (c := 41) G hr kw ko (tpR_of htp ht of21 (by decide)) e28_z t21 (fun r30 v30 g30 o30 a30 b30 => ?_))
        obtain ⟨c30, t30⟩ := a30 h41
        refine t_ifeq (t := 40) dX5_readAtom_33 (by decide) (fun h33 => False.elim (by omega)) (fun h33 => ?_)
        refine n_iconst dX5_readAtom_36 (by decide) (fun r36 e36 => ?_)
        refine r_goto (t := 41) dX5_readAtom_37 (by decide) ?_
        refine m_zret dX5_readAtom_41 rfl (by omega) (Nat.le_of_ble_eq_true rfl) (Nat.le_of_ble_eq_true rfl) ?_
        exact hQ _ _ g30 (frM_tr of21 (frM_su o30 (by decide) (by decide))) (fun _ => ⟨e36, t30, okR_cg k21 w11 (o30.2.1 8 (by decide) (by decide) (by decide)) (o30.2.2 9 (by decide))⟩) (fun h_z => absurd rfl h_z)
      · have hv2 : clP B n 41 (suP B n (atP B n (if lm = 5 then 8 else 6) 4) (nxP B n p)) = (baP B n (suP B n (atP B n (if lm = 5 then 8 else 6) 4) (nxP B n p)).2.1, (suP B n (atP B n (if lm = 5 then 8 else 6) 4) (nxP B n p)).2.1, []) := (if_neg (not_not_intro hq)).trans (if_neg h41)
        rw [hv2] at hQ
        refine r_aloadR0 dX5_readAtom_0 ?_
        refine m_getV (x := (f A 4)) zf_RX5_25 rfl dX5_readAtom_1 hr.1 (rfl) ?_
        refine n_bipush dX5_readAtom_4 (by decide) (fun r4 e4_z => ?_)
        refine t_icne (t := 42) dX5_readAtom_6 (by decide) (fun h6 => False.elim (by omega)) (fun h6 => ?_)
        refine r_aloadR0 dX5_readAtom_9 ?_
        refine r_iload1 dX5_readAtom_10 ?_
        refine q_callV1 zm_RX5_185 dX5_readAtom_11 hr.1 (by decide) rfl (Nat.le_of_ble_eq_true rfl) (Nat.le_of_ble_eq_true rfl) (Nat.le_of_ble_eq_true rfl) (Nat.le_of_ble_eq_true rfl) (Nat.le_of_ble_eq_true rfl) (s_X5_goDeeper (d := 1) G hr kw ko htp hx htk (fun r11 v11 g11 o11 a11 b11 => ?_))
        obtain ⟨c11, t11⟩ := a11 (by decide)
        have htp11 := tpR_of htp ht o11 (by decide)
        have w11 : g11 (A + 8) = f (A + 8) := o11.2.1 8 (by decide) (by decide) (by decide)
        refine t_ifeq (t := 40) dX5_readAtom_14 (by decide) (fun h14 => False.elim (by omega)) (fun h14 => ?_)
        refine r_aloadR0 dX5_readAtom_17 ?_
        refine r_iload1 dX5_readAtom_18 ?_
        refine n_iconst dX5_readAtom_19 (by decide) (fun r19 e19_z => ?_)
        refine n_iadd dX5_readAtom_20 (by omega) (fun r20 e20 => ?_)
        refine q_callV1 zm_RX5_146 dX5_readAtom_21 hr.1 (by decide) rfl (Nat.le_of_ble_eq_true rfl) (Nat.le_of_ble_eq_true rfl) (Nat.le_of_ble_eq_true rfl) (Nat.le_of_ble_eq_true rfl) (Nat.le_of_ble_eq_true rfl) (s_X5_readSum_4 (lm := lm) (u := u) G hr kw ko htp11 t11 (by omega) (by rw [o11.2.2 10 (by decide)]; exact hol) (by rw [o11.2.2 9 (by decide)]; exact hu) (by omega) (fun r21 v21 g21 o21 a21 b21 => ?_))
        have a21b : (suP B n (atP B n (if lm = 5 then 8 else 6) 4) (nxP B n p)).1 = 0 → r21.toInt = 1 ∧ tkR ca B n g21 v21 A (suP B n (atP B n (if lm = 5 then 8 else 6) 4) (nxP B n p)).2.1 ∧ okR g11 g21 A u (suP B n (atP B n (if lm = 5 then 8 else 6) 4) (nxP B n p)).2.2 := a21
        have b21b : (suP B n (atP B n (if lm = 5 then 8 else 6) 4) (nxP B n p)).1 ≠ 0 → r21.toInt = 0 ∧ flR g21 A (suP B n (atP B n (if lm = 5 then 8 else 6) 4) (nxP B n p)).1 (suP B n (atP B n (if lm = 5 then 8 else 6) 4) (nxP B n p)).2.1 := b21
        have of21 : frM A [8] [2, 3, 4, 5, 9, 11, 12] f g21 := frM_tr (frM_su o11 (by decide) (by decide)) o21
        obtain ⟨c21, t21, k21⟩ := a21b hq
        refine t_ifeq (t := 40) dX5_readAtom_24 (by decide) (fun h24 => False.elim (by omega)) (fun h24 => ?_)
        refine r_aloadR0 dX5_readAtom_27 ?_
        refine n_bipush dX5_readAtom_28 (by decide) (fun r28 e28_z => ?_)
        refine q_callV1 zm_RX5_102 dX5_readAtom_30 hr.1 (by decide) rfl (Nat.le_of_ble_eq_true rfl) (Nat.le_of_ble_eq_true rfl) (Nat.le_of_ble_eq_true rfl) (Nat.le_of_ble_eq_true rfl) (Nat.le_of_ble_eq_true rfl) (s_X5_takeSign (s := (suP B n (atP B n (if lm = 5 then 8 else 6) 4) (nxP B n p)).2.1) (c := 41) G hr kw ko (tpR_of htp ht of21 (by decide)) e28_z t21 (fun r30 v30 g30 o30 a30 b30 => ?_))
        obtain ⟨c30, l30⟩ := b30 h41
        refine t_ifeq (t := 40) dX5_readAtom_33 (by decide) (fun h33 => ?_) (fun h33 => False.elim (by omega))
        refine n_iconst dX5_readAtom_40 (by decide) (fun r40 e40 => ?_)
        refine m_zret dX5_readAtom_41 rfl (by omega) (Nat.le_of_ble_eq_true rfl) (Nat.le_of_ble_eq_true rfl) ?_
        exact hQ _ _ g30 (frM_tr of21 (frM_su o30 (by decide) (by decide))) (fun h_z => absurd h_z ba_bd.1) (fun _ => ⟨e40, l30⟩)
    · have hv2 : clP B n 41 (suP B n (atP B n (if lm = 5 then 8 else 6) 4) (nxP B n p)) = (suP B n (atP B n (if lm = 5 then 8 else 6) 4) (nxP B n p)) := if_pos hq
      rw [hv2] at hQ
      refine r_aloadR0 dX5_readAtom_0 ?_
      refine m_getV (x := (f A 4)) zf_RX5_25 rfl dX5_readAtom_1 hr.1 (rfl) ?_
      refine n_bipush dX5_readAtom_4 (by decide) (fun r4 e4_z => ?_)
      refine t_icne (t := 42) dX5_readAtom_6 (by decide) (fun h6 => False.elim (by omega)) (fun h6 => ?_)
      refine r_aloadR0 dX5_readAtom_9 ?_
      refine r_iload1 dX5_readAtom_10 ?_
      refine q_callV1 zm_RX5_185 dX5_readAtom_11 hr.1 (by decide) rfl (Nat.le_of_ble_eq_true rfl) (Nat.le_of_ble_eq_true rfl) (Nat.le_of_ble_eq_true rfl) (Nat.le_of_ble_eq_true rfl) (Nat.le_of_ble_eq_true rfl) (s_X5_goDeeper (d := 1) G hr kw ko htp hx htk (fun r11 v11 g11 o11 a11 b11 => ?_))
      obtain ⟨c11, t11⟩ := a11 (by decide)
      have htp11 := tpR_of htp ht o11 (by decide)
      have w11 : g11 (A + 8) = f (A + 8) := o11.2.1 8 (by decide) (by decide) (by decide)
      refine t_ifeq (t := 40) dX5_readAtom_14 (by decide) (fun h14 => False.elim (by omega)) (fun h14 => ?_)
      refine r_aloadR0 dX5_readAtom_17 ?_
      refine r_iload1 dX5_readAtom_18 ?_
      refine n_iconst dX5_readAtom_19 (by decide) (fun r19 e19_z => ?_)
      refine n_iadd dX5_readAtom_20 (by omega) (fun r20 e20 => ?_)
      refine q_callV1 zm_RX5_146 dX5_readAtom_21 hr.1 (by decide) rfl (Nat.le_of_ble_eq_true rfl) (Nat.le_of_ble_eq_true rfl) (Nat.le_of_ble_eq_true rfl) (Nat.le_of_ble_eq_true rfl) (Nat.le_of_ble_eq_true rfl) (s_X5_readSum_4 (lm := lm) (u := u) G hr kw ko htp11 t11 (by omega) (by rw [o11.2.2 10 (by decide)]; exact hol) (by rw [o11.2.2 9 (by decide)]; exact hu) (by omega) (fun r21 v21 g21 o21 a21 b21 => ?_))
      have a21b : (suP B n (atP B n (if lm = 5 then 8 else 6) 4) (nxP B n p)).1 = 0 → r21.toInt = 1 ∧ tkR ca B n g21 v21 A (suP B n (atP B n (if lm = 5 then 8 else 6) 4) (nxP B n p)).2.1 ∧ okR g11 g21 A u (suP B n (atP B n (if lm = 5 then 8 else 6) 4) (nxP B n p)).2.2 := a21
      have b21b : (suP B n (atP B n (if lm = 5 then 8 else 6) 4) (nxP B n p)).1 ≠ 0 → r21.toInt = 0 ∧ flR g21 A (suP B n (atP B n (if lm = 5 then 8 else 6) 4) (nxP B n p)).1 (suP B n (atP B n (if lm = 5 then 8 else 6) 4) (nxP B n p)).2.1 := b21
      have of21 : frM A [8] [2, 3, 4, 5, 9, 11, 12] f g21 := frM_tr (frM_su o11 (by decide) (by decide)) o21
      obtain ⟨c21, l21⟩ := b21b hq
      refine t_ifeq (t := 40) dX5_readAtom_24 (by decide) (fun h24 => ?_) (fun h24 => False.elim (by omega))
      refine n_iconst dX5_readAtom_40 (by decide) (fun r40 e40 => ?_)
      refine m_zret dX5_readAtom_41 rfl (by omega) (Nat.le_of_ble_eq_true rfl) (Nat.le_of_ble_eq_true rfl) ?_
      exact hQ _ _ g21 of21 (fun h_z => absurd h_z hq) (fun _ => ⟨e40, l21⟩)
  have hv0 : atP B n (if lm = 5 then 8 else 6) 5 p = a1P B n (if lm = 5 then 8 else 6) p := if_neg hp
  rw [hv0] at hQ
  by_cases h2 : tkP B n p = 2
  · have hv : a1P B n (if lm = 5 then 8 else 6) p = (0, nxP B n p, [nmP B n p]) := a1_num h2
    rw [hv] at hQ
    have hln := (tk2 h2).1
    have h5 := htk.2.2.2.2.1 h2
    refine r_aloadR0 dX5_readAtom_0 ?_
    refine m_getV (x := (f A 4)) zf_RX5_25 rfl dX5_readAtom_1 hr.1 (rfl) ?_
    refine n_bipush dX5_readAtom_4 (by decide) (fun r4 e4_z => ?_)
    refine t_icne (t := 42) dX5_readAtom_6 (by decide) (fun h6 => ?_) (fun h6 => False.elim (by omega))
    refine r_aloadR0 dX5_readAtom_42 ?_
    refine m_getV (x := (f A 4)) zf_RX5_25 rfl dX5_readAtom_43 hr.1 (rfl) ?_
    refine n_iconst dX5_readAtom_46 (by decide) (fun r46 e46 => ?_)
    refine t_icne (t := 64) dX5_readAtom_47 (by decide) (fun h47 => False.elim (by omega)) (fun h47 => ?_)
    refine r_aloadR0 dX5_readAtom_50 ?_
    refine r_aloadR0 dX5_readAtom_51 ?_
    refine m_getV (x := (f A 5)) zf_RX5_28 rfl dX5_readAtom_52 hr.1 (rfl) ?_
    refine q_callV1 zm_RX5_173 dX5_readAtom_55 hr.1 (by decide) rfl (Nat.le_of_ble_eq_true rfl) (Nat.le_of_ble_eq_true rfl) (Nat.le_of_ble_eq_true rfl) (Nat.le_of_ble_eq_true rfl) (Nat.le_of_ble_eq_true rfl) (s_X5_emit (u := u) G hr hu (by omega) (fun g55 o55 a55 b55 c55 => ?_))
    have t55 := tkR_of htk o55 (by decide) (by decide) (by decide) (by decide)
    have htp55 := tpR_of htp ht o55 (by decide)
    refine r_aloadR0 dX5_readAtom_58 ?_
    refine q_callV0 zm_RX5_73 dX5_readAtom_59 hr.1 (by decide) rfl (Nat.le_of_ble_eq_true rfl) (Nat.le_of_ble_eq_true rfl) (Nat.le_of_ble_eq_true rfl) (Nat.le_of_ble_eq_true rfl) (Nat.le_of_ble_eq_true rfl) (s_X5_next (p := teP B n p) G hr kw ko htp55 t55.2.1 (teP_le t55.1) t55.2.2.2.2.2.2 (fun v59 g59 o59 t59 => ?_))
    have t59 : tkR ca B n g59 v59 A (nxP B n p) := t59
    refine n_iconst dX5_readAtom_62 (by decide) (fun r62 e62 => ?_)
    refine m_zret dX5_readAtom_63 rfl (by omega) (Nat.le_of_ble_eq_true rfl) (Nat.le_of_ble_eq_true rfl) ?_
    exact hQ _ _ g59 (frM_tr (frM_su o55 (by decide) (by decide)) (frM_su o59 (by decide) (by decide))) (fun _ => ⟨e62, t59, okR_cg (okR_one a55 b55 c55 h5) rfl (o59.2.1 8 (by decide) (by decide) (by decide)) (o59.2.2 9 (by decide))⟩) (fun h_z => absurd rfl h_z)
  have hwl := wd_le (B := B) (n := n) (s := p)
  have f1_z := fcI_ne (wdP B n p) (by omega)
  have f2_z := fcI_eq (wdP B n p) (by omega)
  have f3_z := fcP_a (wdP B n p) (by omega)
  have f9_z := fcP_9 (wdP B n p) (by omega)
  by_cases hf : tkP B n p = 3 ∧ fcP (wdP B n p) < (if lm = 5 then 8 else 6)
  · have hv : a1P B n (if lm = 5 then 8 else 6) p = (0, nxP B n p, [1000 + fcP (wdP B n p)]) := a1_fact hf
    rw [hv] at hQ
    have hv3 := htk.2.2.2.2.2.1 hf.1
    have hf8 : fcP (wdP B n p) < 8 := Nat.lt_of_lt_of_le hf.2 (by split <;> decide)
    have hln := tk_lt (B := B) (n := n) (s := p) (by rw [hf.1]; decide)
    have g3_z := f2_z (by omega)
    have n1 : (fcI (wdP B n p)).toInt ≠ -1 := fun h_z => by have := f1_z.mp h_z; omega
    by_cases h5l : lm = 5
    · rw [if_pos h5l] at hol
      refine r_aloadR0 dX5_readAtom_0 ?_
      refine m_getV (x := (f A 4)) zf_RX5_25 rfl dX5_readAtom_1 hr.1 (rfl) ?_
      refine n_bipush dX5_readAtom_4 (by decide) (fun r4 e4_z => ?_)
      refine t_icne (t := 42) dX5_readAtom_6 (by decide) (fun h6 => ?_) (fun h6 => False.elim (by omega))
      refine r_aloadR0 dX5_readAtom_42 ?_
      refine m_getV (x := (f A 4)) zf_RX5_25 rfl dX5_readAtom_43 hr.1 (rfl) ?_
      refine n_iconst dX5_readAtom_46 (by decide) (fun r46 e46 => ?_)
      refine t_icne (t := 64) dX5_readAtom_47 (by decide) (fun h47 => ?_) (fun h47 => False.elim (by omega))
      refine r_aloadR0 dX5_readAtom_64 ?_
      refine m_getV (x := (f A 4)) zf_RX5_25 rfl dX5_readAtom_65 hr.1 (rfl) ?_
      refine n_iconst dX5_readAtom_68 (by decide) (fun r68 e68 => ?_)
      refine t_icne (t := 104) dX5_readAtom_69 (by decide) (fun h69 => False.elim (by omega)) (fun h69 => ?_)
      refine r_aloadR0 dX5_readAtom_72 ?_
      refine m_getR (q := (ca (wdP B n p))) zf_RX5_37 rfl dX5_readAtom_73 hr.1 (zu_at.trans hv3) ?_
      refine k_getf (fun U hU => (ko.2.2.2.2.1 _ (Nat.lt_succ_of_le wd_le) U hU).2.2.1) zg_RX5_197 dX5_readAtom_76 ?_
      refine n_iconst dX5_readAtom_79 (by decide) (fun r79 e79 => ?_)
      refine t_iceq (t := 104) dX5_readAtom_80 (by decide) (fun h80 => False.elim (by omega)) (fun h80 => ?_)
      refine r_aloadR0 dX5_readAtom_83 ?_
      refine m_getV (x := (f A 10)) zf_RX5_54 rfl dX5_readAtom_84 hr.1 (rfl) ?_
      refine t_ifne (t := 100) dX5_readAtom_87 (by decide) (fun h87 => ?_) (fun h87 => False.elim (by omega))
      refine n_iconst dX5_readAtom_100 (by decide) (fun r100 e100_z => ?_)
      refine r_goto (t := 105) dX5_readAtom_101 (by decide) ?_
      refine r_istore2 dX5_readAtom_105 rfl ?_
      refine r_iload2 dX5_readAtom_106 ?_
      refine t_ifne (t := 115) dX5_readAtom_107 (by decide) (fun h107 => ?_) (fun h107 => False.elim (by omega))
      refine r_aloadR0 dX5_readAtom_115 ?_
      refine n_sipush dX5_readAtom_116 (by decide) (fun r116 e116 => ?_)
      refine r_aloadR0 dX5_readAtom_119 ?_
      refine m_getR (q := (ca (wdP B n p))) zf_RX5_37 rfl dX5_readAtom_120 hr.1 (zu_at.trans hv3) ?_
      refine k_getf (fun U hU => (ko.2.2.2.2.1 _ (Nat.lt_succ_of_le wd_le) U hU).2.2.1) zg_RX5_197 dX5_readAtom_123 ?_
      refine n_iadd dX5_readAtom_126 (by omega) (fun r126 e126 => ?_)
      refine q_callV1 zm_RX5_173 dX5_readAtom_127 hr.1 (by decide) rfl (Nat.le_of_ble_eq_true rfl) (Nat.le_of_ble_eq_true rfl) (Nat.le_of_ble_eq_true rfl) (Nat.le_of_ble_eq_true rfl) (Nat.le_of_ble_eq_true rfl) (s_X5_emit (u := u) G hr hu (by omega) (fun g127 o127 a127 b127 c127 => ?_))
      have t127 := tkR_of htk o127 (by decide) (by decide) (by decide) (by decide)
      have htp127 := tpR_of htp ht o127 (by decide)
      refine r_aloadR0 dX5_readAtom_130 ?_
      refine q_callV0 zm_RX5_73 dX5_readAtom_131 hr.1 (by decide) rfl (Nat.le_of_ble_eq_true rfl) (Nat.le_of_ble_eq_true rfl) (Nat.le_of_ble_eq_true rfl) (Nat.le_of_ble_eq_true rfl) (Nat.le_of_ble_eq_true rfl) (s_X5_next (p := teP B n p) G hr kw ko htp127 t127.2.1 (teP_le t127.1) t127.2.2.2.2.2.2 (fun v131 g131 o131 t131 => ?_))
      have t131 : tkR ca B n g131 v131 A (nxP B n p) := t131
      refine n_iconst dX5_readAtom_134 (by decide) (fun r134 e134 => ?_)
      refine m_zret dX5_readAtom_135 rfl (by omega) (Nat.le_of_ble_eq_true rfl) (Nat.le_of_ble_eq_true rfl) ?_
      exact hQ _ _ g131 (frM_tr (frM_su o127 (by decide) (by decide)) (frM_su o131 (by decide) (by decide))) (fun _ => ⟨e134, t131, okR_cg (okR_one a127 b127 c127 (by omega)) rfl (o131.2.1 8 (by decide) (by decide) (by decide)) (o131.2.2 9 (by decide))⟩) (fun h_z => absurd rfl h_z)
    · rw [if_neg h5l] at hol
      have h6 : fcP (wdP B n p) < 6 := by have h7 := hf.2; rw [if_neg h5l] at h7; exact h7
      have hna := (f3_z hf8).mp h6
      refine r_aloadR0 dX5_readAtom_0 ?_
      refine m_getV (x := (f A 4)) zf_RX5_25 rfl dX5_readAtom_1 hr.1 (rfl) ?_
      refine n_bipush dX5_readAtom_4 (by decide) (fun r4 e4_z => ?_)
      refine t_icne (t := 42) dX5_readAtom_6 (by decide) (fun h6 => ?_) (fun h6 => False.elim (by omega))
      refine r_aloadR0 dX5_readAtom_42 ?_
      refine m_getV (x := (f A 4)) zf_RX5_25 rfl dX5_readAtom_43 hr.1 (rfl) ?_
      refine n_iconst dX5_readAtom_46 (by decide) (fun r46 e46 => ?_)
      refine t_icne (t := 64) dX5_readAtom_47 (by decide) (fun h47 => ?_) (fun h47 => False.elim (by omega))
      refine r_aloadR0 dX5_readAtom_64 ?_
      refine m_getV (x := (f A 4)) zf_RX5_25 rfl dX5_readAtom_65 hr.1 (rfl) ?_
      refine n_iconst dX5_readAtom_68 (by decide) (fun r68 e68 => ?_)
      refine t_icne (t := 104) dX5_readAtom_69 (by decide) (fun h69 => False.elim (by omega)) (fun h69 => ?_)
      refine r_aloadR0 dX5_readAtom_72 ?_
      refine m_getR (q := (ca (wdP B n p))) zf_RX5_37 rfl dX5_readAtom_73 hr.1 (zu_at.trans hv3) ?_
      refine k_getf (fun U hU => (ko.2.2.2.2.1 _ (Nat.lt_succ_of_le wd_le) U hU).2.2.1) zg_RX5_197 dX5_readAtom_76 ?_
      refine n_iconst dX5_readAtom_79 (by decide) (fun r79 e79 => ?_)
      refine t_iceq (t := 104) dX5_readAtom_80 (by decide) (fun h80 => False.elim (by omega)) (fun h80 => ?_)
      refine r_aloadR0 dX5_readAtom_83 ?_
      refine m_getV (x := (f A 10)) zf_RX5_54 rfl dX5_readAtom_84 hr.1 (rfl) ?_
      refine t_ifne (t := 100) dX5_readAtom_87 (by decide) (fun h87 => False.elim (by omega)) (fun h87 => ?_)
      refine r_aloadR0 dX5_readAtom_90 ?_
      refine m_getR (q := (ca (wdP B n p))) zf_RX5_37 rfl dX5_readAtom_91 hr.1 (zu_at.trans hv3) ?_
      refine k_callV0 zm_RX5_200 dX5_readAtom_94 (fun U hU => (ko.2.2.2.2.1 _ (Nat.lt_succ_of_le wd_le) U hU).1) (Nat.le_of_ble_eq_true rfl) (Nat.le_of_ble_eq_true rfl) (Nat.le_of_ble_eq_true rfl) (Nat.le_of_ble_eq_true rfl) (Nat.le_of_ble_eq_true rfl) (s_X10_isOfLikesAlone (i := wdP B n p) G kw ko (by omega) (fun r94 e94_z => ?_))
      refine t_ifne (t := 104) dX5_readAtom_97 (by decide) (fun h97 => False.elim (e94_z.elim (fun h_z => hna h_z.2) (fun h_z => by omega))) (fun h97 => ?_)
      refine n_iconst dX5_readAtom_100 (by decide) (fun r100 e100_z => ?_)
      refine r_goto (t := 105) dX5_readAtom_101 (by decide) ?_
      refine r_istore2 dX5_readAtom_105 rfl ?_
      refine r_iload2 dX5_readAtom_106 ?_
      refine t_ifne (t := 115) dX5_readAtom_107 (by decide) (fun h107 => ?_) (fun h107 => False.elim (by omega))
      refine r_aloadR0 dX5_readAtom_115 ?_
      refine n_sipush dX5_readAtom_116 (by decide) (fun r116 e116 => ?_)
      refine r_aloadR0 dX5_readAtom_119 ?_
      refine m_getR (q := (ca (wdP B n p))) zf_RX5_37 rfl dX5_readAtom_120 hr.1 (zu_at.trans hv3) ?_
      refine k_getf (fun U hU => (ko.2.2.2.2.1 _ (Nat.lt_succ_of_le wd_le) U hU).2.2.1) zg_RX5_197 dX5_readAtom_123 ?_
      refine n_iadd dX5_readAtom_126 (by omega) (fun r126 e126 => ?_)
      refine q_callV1 zm_RX5_173 dX5_readAtom_127 hr.1 (by decide) rfl (Nat.le_of_ble_eq_true rfl) (Nat.le_of_ble_eq_true rfl) (Nat.le_of_ble_eq_true rfl) (Nat.le_of_ble_eq_true rfl) (Nat.le_of_ble_eq_true rfl) (s_X5_emit (u := u) G hr hu (by omega) (fun g127 o127 a127 b127 c127 => ?_))
      have t127 := tkR_of htk o127 (by decide) (by decide) (by decide) (by decide)
      have htp127 := tpR_of htp ht o127 (by decide)
      refine r_aloadR0 dX5_readAtom_130 ?_
      refine q_callV0 zm_RX5_73 dX5_readAtom_131 hr.1 (by decide) rfl (Nat.le_of_ble_eq_true rfl) (Nat.le_of_ble_eq_true rfl) (Nat.le_of_ble_eq_true rfl) (Nat.le_of_ble_eq_true rfl) (Nat.le_of_ble_eq_true rfl) (s_X5_next (p := teP B n p) G hr kw ko htp127 t127.2.1 (teP_le t127.1) t127.2.2.2.2.2.2 (fun v131 g131 o131 t131 => ?_))
      have t131 : tkR ca B n g131 v131 A (nxP B n p) := t131
      refine n_iconst dX5_readAtom_134 (by decide) (fun r134 e134 => ?_)
      refine m_zret dX5_readAtom_135 rfl (by omega) (Nat.le_of_ble_eq_true rfl) (Nat.le_of_ble_eq_true rfl) ?_
      exact hQ _ _ g131 (frM_tr (frM_su o127 (by decide) (by decide)) (frM_su o131 (by decide) (by decide))) (fun _ => ⟨e134, t131, okR_cg (okR_one a127 b127 c127 (by omega)) rfl (o131.2.1 8 (by decide) (by decide) (by decide)) (o131.2.2 9 (by decide))⟩) (fun h_z => absurd rfl h_z)
  have hba := ba_bd (B := B) (n := n) (s := p)
  have hv : a1P B n (if lm = 5 then 8 else 6) p = (baP B n p, p, []) := a1_bad h2 hf
  rw [hv] at hQ
  by_cases h3 : tkP B n p = 3
  · have hv3 := htk.2.2.2.2.2.1 h3
    by_cases h8 : fcP (wdP B n p) = 8
    · have n1 := f1_z.mpr h8
      refine r_aloadR0 dX5_readAtom_0 ?_
      refine m_getV (x := (f A 4)) zf_RX5_25 rfl dX5_readAtom_1 hr.1 (rfl) ?_
      refine n_bipush dX5_readAtom_4 (by decide) (fun r4 e4_z => ?_)
      refine t_icne (t := 42) dX5_readAtom_6 (by decide) (fun h6 => ?_) (fun h6 => False.elim (by omega))
      refine r_aloadR0 dX5_readAtom_42 ?_
      refine m_getV (x := (f A 4)) zf_RX5_25 rfl dX5_readAtom_43 hr.1 (rfl) ?_
      refine n_iconst dX5_readAtom_46 (by decide) (fun r46 e46 => ?_)
      refine t_icne (t := 64) dX5_readAtom_47 (by decide) (fun h47 => ?_) (fun h47 => False.elim (by omega))
      refine r_aloadR0 dX5_readAtom_64 ?_
      refine m_getV (x := (f A 4)) zf_RX5_25 rfl dX5_readAtom_65 hr.1 (rfl) ?_
      refine n_iconst dX5_readAtom_68 (by decide) (fun r68 e68 => ?_)
      refine t_icne (t := 104) dX5_readAtom_69 (by decide) (fun h69 => False.elim (by omega)) (fun h69 => ?_)
      refine r_aloadR0 dX5_readAtom_72 ?_
      refine m_getR (q := (ca (wdP B n p))) zf_RX5_37 rfl dX5_readAtom_73 hr.1 (zu_at.trans hv3) ?_
      refine k_getf (fun U hU => (ko.2.2.2.2.1 _ (Nat.lt_succ_of_le wd_le) U hU).2.2.1) zg_RX5_197 dX5_readAtom_76 ?_
      refine n_iconst dX5_readAtom_79 (by decide) (fun r79 e79 => ?_)
      refine t_iceq (t := 104) dX5_readAtom_80 (by decide) (fun h80 => ?_) (fun h80 => False.elim (by omega))
      refine n_iconst dX5_readAtom_104 (by decide) (fun r104 e104_z => ?_)
      refine r_istore2 dX5_readAtom_105 rfl ?_
      refine r_iload2 dX5_readAtom_106 ?_
      refine t_ifne (t := 115) dX5_readAtom_107 (by decide) (fun h107 => False.elim (by omega)) (fun h107 => ?_)
      refine r_aloadR0 dX5_readAtom_110 ?_
      refine q_callV0 zm_RX5_80 dX5_readAtom_111 hr.1 (by decide) rfl (Nat.le_of_ble_eq_true rfl) (Nat.le_of_ble_eq_true rfl) (Nat.le_of_ble_eq_true rfl) (Nat.le_of_ble_eq_true rfl) (Nat.le_of_ble_eq_true rfl) (s_X5_refuseToken G hr htk (fun r111 g111 e111_z o111 l111 => ?_))
      refine m_zret dX5_readAtom_114 rfl (by omega) (Nat.le_of_ble_eq_true rfl) (Nat.le_of_ble_eq_true rfl) ?_
      exact hQ _ _ g111 (frM_su o111 (by decide) (by decide)) (fun h_z => absurd h_z hba.1) (fun _ => ⟨e111_z, l111⟩)
    · have n1 : (fcI (wdP B n p)).toInt ≠ -1 := fun h_z => h8 (f1_z.mp h_z)
      have h5l : lm ≠ 5 := fun h_z => hf ⟨h3, by rw [if_pos h_z]; omega⟩
      rw [if_neg h5l] at hol
      have hna : wdP B n p = 2 ∨ wdP B n p = 15 := Decidable.byContradiction (fun h_z => hf ⟨h3, by rw [if_neg h5l]; exact (f3_z (by omega)).mpr h_z⟩)
      refine r_aloadR0 dX5_readAtom_0 ?_
      refine m_getV (x := (f A 4)) zf_RX5_25 rfl dX5_readAtom_1 hr.1 (rfl) ?_
      refine n_bipush dX5_readAtom_4 (by decide) (fun r4 e4_z => ?_)
      refine t_icne (t := 42) dX5_readAtom_6 (by decide) (fun h6 => ?_) (fun h6 => False.elim (by omega))
      refine r_aloadR0 dX5_readAtom_42 ?_
      refine m_getV (x := (f A 4)) zf_RX5_25 rfl dX5_readAtom_43 hr.1 (rfl) ?_
      refine n_iconst dX5_readAtom_46 (by decide) (fun r46 e46 => ?_)
      refine t_icne (t := 64) dX5_readAtom_47 (by decide) (fun h47 => ?_) (fun h47 => False.elim (by omega))
      refine r_aloadR0 dX5_readAtom_64 ?_
      refine m_getV (x := (f A 4)) zf_RX5_25 rfl dX5_readAtom_65 hr.1 (rfl) ?_
      refine n_iconst dX5_readAtom_68 (by decide) (fun r68 e68 => ?_)
      refine t_icne (t := 104) dX5_readAtom_69 (by decide) (fun h69 => False.elim (by omega)) (fun h69 => ?_)
      refine r_aloadR0 dX5_readAtom_72 ?_
      refine m_getR (q := (ca (wdP B n p))) zf_RX5_37 rfl dX5_readAtom_73 hr.1 (zu_at.trans hv3) ?_
      refine k_getf (fun U hU => (ko.2.2.2.2.1 _ (Nat.lt_succ_of_le wd_le) U hU).2.2.1) zg_RX5_197 dX5_readAtom_76 ?_
      refine n_iconst dX5_readAtom_79 (by decide) (fun r79 e79 => ?_)
      refine t_iceq (t := 104) dX5_readAtom_80 (by decide) (fun h80 => False.elim (by omega)) (fun h80 => ?_)
      refine r_aloadR0 dX5_readAtom_83 ?_
      refine m_getV (x := (f A 10)) zf_RX5_54 rfl dX5_readAtom_84 hr.1 (rfl) ?_
      refine t_ifne (t := 100) dX5_readAtom_87 (by decide) (fun h87 => False.elim (by omega)) (fun h87 => ?_)
      refine r_aloadR0 dX5_readAtom_90 ?_
      refine m_getR (q := (ca (wdP B n p))) zf_RX5_37 rfl dX5_readAtom_91 hr.1 (zu_at.trans hv3) ?_
      refine k_callV0 zm_RX5_200 dX5_readAtom_94 (fun U hU => (ko.2.2.2.2.1 _ (Nat.lt_succ_of_le wd_le) U hU).1) (Nat.le_of_ble_eq_true rfl) (Nat.le_of_ble_eq_true rfl) (Nat.le_of_ble_eq_true rfl) (Nat.le_of_ble_eq_true rfl) (Nat.le_of_ble_eq_true rfl) (s_X10_isOfLikesAlone (i := wdP B n p) G kw ko (by omega) (fun r94 e94_z => ?_))
      refine t_ifne (t := 104) dX5_readAtom_97 (by decide) (fun h97 => ?_) (fun h97 => False.elim (e94_z.elim (fun h_z => by omega) (fun h_z => h_z.2 hna)))
      refine n_iconst dX5_readAtom_104 (by decide) (fun r104 e104_z => ?_)
      refine r_istore2 dX5_readAtom_105 rfl ?_
      refine r_iload2 dX5_readAtom_106 ?_
      refine t_ifne (t := 115) dX5_readAtom_107 (by decide) (fun h107 => False.elim (by omega)) (fun h107 => ?_)
      refine r_aloadR0 dX5_readAtom_110 ?_
      refine q_callV0 zm_RX5_80 dX5_readAtom_111 hr.1 (by decide) rfl (Nat.le_of_ble_eq_true rfl) (Nat.le_of_ble_eq_true rfl) (Nat.le_of_ble_eq_true rfl) (Nat.le_of_ble_eq_true rfl) (Nat.le_of_ble_eq_true rfl) (s_X5_refuseToken G hr htk (fun r111 g111 e111_z o111 l111 => ?_))
      refine m_zret dX5_readAtom_114 rfl (by omega) (Nat.le_of_ble_eq_true rfl) (Nat.le_of_ble_eq_true rfl) ?_
      exact hQ _ _ g111 (frM_su o111 (by decide) (by decide)) (fun h_z => absurd h_z hba.1) (fun _ => ⟨e111_z, l111⟩)
  refine r_aloadR0 dX5_readAtom_0 ?_
  refine m_getV (x := (f A 4)) zf_RX5_25 rfl dX5_readAtom_1 hr.1 (rfl) ?_
  refine n_bipush dX5_readAtom_4 (by decide) (fun r4 e4_z => ?_)
  refine t_icne (t := 42) dX5_readAtom_6 (by decide) (fun h6 => ?_) (fun h6 => False.elim (by omega))
  refine r_aloadR0 dX5_readAtom_42 ?_
  refine m_getV (x := (f A 4)) zf_RX5_25 rfl dX5_readAtom_43 hr.1 (rfl) ?_
  refine n_iconst dX5_readAtom_46 (by decide) (fun r46 e46 => ?_)
  refine t_icne (t := 64) dX5_readAtom_47 (by decide) (fun h47 => ?_) (fun h47 => False.elim (by omega))
  refine r_aloadR0 dX5_readAtom_64 ?_
  refine m_getV (x := (f A 4)) zf_RX5_25 rfl dX5_readAtom_65 hr.1 (rfl) ?_
  refine n_iconst dX5_readAtom_68 (by decide) (fun r68 e68 => ?_)
  refine t_icne (t := 104) dX5_readAtom_69 (by decide) (fun h69 => ?_) (fun h69 => False.elim (by omega))
  refine n_iconst dX5_readAtom_104 (by decide) (fun r104 e104_z => ?_)
  refine r_istore2 dX5_readAtom_105 rfl ?_
  refine r_iload2 dX5_readAtom_106 ?_
  refine t_ifne (t := 115) dX5_readAtom_107 (by decide) (fun h107 => False.elim (by omega)) (fun h107 => ?_)
  refine r_aloadR0 dX5_readAtom_110 ?_
  refine q_callV0 zm_RX5_80 dX5_readAtom_111 hr.1 (by decide) rfl (Nat.le_of_ble_eq_true rfl) (Nat.le_of_ble_eq_true rfl) (Nat.le_of_ble_eq_true rfl) (Nat.le_of_ble_eq_true rfl) (Nat.le_of_ble_eq_true rfl) (s_X5_refuseToken G hr htk (fun r111 g111 e111_z o111 l111 => ?_))
  refine m_zret dX5_readAtom_114 rfl (by omega) (Nat.le_of_ble_eq_true rfl) (Nat.le_of_ble_eq_true rfl) ?_
  exact hQ _ _ g111 (frM_su o111 (by decide) (by decide)) (fun h_z => absurd h_z hba.1) (fun _ => ⟨e111_z, l111⟩)
set_option maxHeartbeats 4000000 in
set_option maxRecDepth 100000 in
theorem s_X5_readTerm_5 {g : zGT} {w : zW} {f : Nat → Nat → Int32} {j : Nat → Nat → Int64} {A tq nq : Nat} {v : Option Nat} {B : Nat → Nat} {n : Nat} {ca wa wv : Nat → Nat} {kq ta sm gq gv : Nat} {p lm u : Nat} {x : Int32} {Q : Option Value → zW → Prop} {QX : String → zW → Prop} (G : zGok g) (hr : shRd w A tq nq) (kw : kWd g wa wv kq) (ko : kWo g ca wa wv ta sm gq gv) (htp : tpR B n f A tq) (htk : tkR ca B n f v A p) (hx : x.toInt = 1) (hol : (f A 10).toInt = if lm = 5 then 1 else 0) (hu : (f A 9).toInt = (u : Nat)) (hup : u ≤ p) (hQ : ∀ (b : Int32) v2 f2_z, frM A [8] [2, 3, 4, 5, 9, 11, 12] f f2_z → ((chP B n (atP B n (if lm = 5 then 8 else 6) 5) (opT B n) p).1 = 0 → b.toInt = 1 ∧ tkR ca B n f2_z v2 A (chP B n (atP B n (if lm = 5 then 8 else 6) 5) (opT B n) p).2.1 ∧ okR f f2_z A u (chP B n (atP B n (if lm = 5 then 8 else 6) 5) (opT B n) p).2.2) → ((chP B n (atP B n (if lm = 5 then 8 else 6) 5) (opT B n) p).1 ≠ 0 → b.toInt = 0 ∧ flR f2_z A (chP B n (atP B n (if lm = 5 then 8 else 6) 5) (opT B n) p).1 (chP B n (atP B n (if lm = 5 then 8 else 6) 5) (opT B n) p).2.1) → Q (some (.int b)) (zM (wW w A v2) f2_z j)) : zC g 31 yX5_readTerm cX5_readTerm 3 (some .boolean) [.ref A, .int x] (zM (wW w A v) f j) (0, 0) Q QX := by
  refine zC_of G (by decide +kernel) (Nat.le_of_ble_eq_true rfl) ?_
  have ht := hr.2.2.2.2.2.2
  have h4 := htk.2.2.2.1
  have hpn := htk.1
  have h900 := htp.2.1
  have hgd : ∀ s, s ≤ n → gdP n false (if lm = 5 then 8 else 6) (1 + 2 * 5) s ((atP B n (if lm = 5 then 8 else 6) 5) s) := gd_at (by split <;> decide) 5
  have lp : ∀ (mz : Nat) (uu : Int32) (i : Nat) (k : Nat) (ps : Nat) (c : List Nat) (f2_z : Nat → Nat → Int32) (vv : Option Nat), uu.toInt = (i : Nat) → frM A [8] [2, 3, 4, 5, 9, 11, 12] f f2_z → tkR ca B n f2_z vv A ps → okR f f2_z A u c → p + i < ps → ps ≤ n → c.length + p ≤ ps → n ≤ k + ps → lpP B n (atP B n (if lm = 5 then 8 else 6) 5) (opT B n) k (0, ps, c) = chP B n (atP B n (if lm = 5 then 8 else 6) 5) (opT B n) p → k < mz → zR (zV g 31 yX5_readTerm 3 (some .boolean) (0, 0) Q QX) cX5_readTerm yX5_readTerm.cls 12 [some (.ref A), some (.int x), some (.int uu)] [] (zM (wW w A vv) f2_z j) (0, 0) := by
    intro mz
    induction mz with
    | zero =>
      intro uu i k ps c f2_z vv hui ofr htk2 hok hpi hps hcl hnk hR hmz
      exact absurd hmz (Nat.not_lt_zero _)
    | succ mz ih =>
      intro uu i k ps c f2_z vv hui ofr htk2 hok hpi hps hcl hnk hR hmz
      have htp2 := tpR_of htp ht ofr (by decide)
      have h1 := htp2.1
      have htk4 := htk2.2.2.2.1
      have hi9 : i < n := by omega
      by_cases hc_z : tkP B n ps = 42
      · have hop : (opT B n) ps = 2005 := if_pos hc_z
        have hop0 : (opT B n) ps ≠ 0 := by rw [hop]; decide
        have hln := tk_lt (B := B) (n := n) (s := ps) (by rw [hc_z]; decide)
        obtain ⟨k2_z, rfl⟩ : ∃ k2_z, k = k2_z + 1 := ⟨k - 1, by omega⟩
        have hnx := nxP_gt (B := B) hln
        have gq := hgd _ hnx.2
        by_cases hq : ((atP B n (if lm = 5 then 8 else 6) 5) (nxP B n ps)).1 = 0
        · obtain ⟨y1, y2, y3, y4⟩ := gq.1 hq
          refine r_iload2 dX5_readTerm_12 ?_
          refine r_aloadR0 dX5_readTerm_13 ?_
          refine m_getV (x := (f2_z A 1)) zf_RX5_15 rfl dX5_readTerm_14 hr.1 (rfl) ?_
          refine t_icge (t := 56) dX5_readTerm_17 (by decide) (fun h17 => False.elim (by omega)) (fun h17 => ?_)
          refine r_aloadR0 dX5_readTerm_20 ?_
          refine m_getV (x := (f2_z A 4)) zf_RX5_25 rfl dX5_readTerm_21 hr.1 (rfl) ?_
          refine n_bipush dX5_readTerm_24 (by decide) (fun r24 e24_z => ?_)
          refine t_icne (t := 56) dX5_readTerm_26 (by decide) (fun h26 => False.elim (by omega)) (fun h26 => ?_)
          refine r_aloadR0 dX5_readTerm_29 ?_
          refine q_callV0 zm_RX5_73 dX5_readTerm_30 hr.1 (by decide) rfl (Nat.le_of_ble_eq_true rfl) (Nat.le_of_ble_eq_true rfl) (Nat.le_of_ble_eq_true rfl) (Nat.le_of_ble_eq_true rfl) (Nat.le_of_ble_eq_true rfl) (s_X5_next (p := teP B n ps) G hr kw ko htp2 htk2.2.1 (teP_le htk2.1) htk2.2.2.2.2.2.2 (fun v30 g30 o30 t30 => ?_))
          have t30 : tkR ca B n g30 v30 A (nxP B n ps) := t30
          have htpn := tpR_of htp2 ht o30 (by decide)
          have wn : g30 (A + 8) = f2_z (A + 8) := o30.2.1 8 (by decide) (by decide) (by decide)
          refine r_aloadR0 dX5_readTerm_33 ?_
          refine r_iload1 dX5_readTerm_34 ?_
          refine q_callV1 zm_RX5_194 dX5_readTerm_35 hr.1 (by decide) rfl (Nat.le_of_ble_eq_true rfl) (Nat.le_of_ble_eq_true rfl) (Nat.le_of_ble_eq_true rfl) (Nat.le_of_ble_eq_true rfl) (Nat.le_of_ble_eq_true rfl) (s_X5_readAtom_5 (lm := lm) (u := u + c.length) G hr kw ko htpn t30 hx (by rw [o30.2.2 10 (by decide), ofr.2.2 10 (by decide)]; exact hol) (by rw [o30.2.2 9 (by decide)]; exact hok.1) (by omega) (fun rs vs gs os as bs => ?_))
          have as2 : ((atP B n (if lm = 5 then 8 else 6) 5) (nxP B n ps)).1 = 0 → rs.toInt = 1 ∧ tkR ca B n gs vs A ((atP B n (if lm = 5 then 8 else 6) 5) (nxP B n ps)).2.1 ∧ okR g30 gs A (u + c.length) ((atP B n (if lm = 5 then 8 else 6) 5) (nxP B n ps)).2.2 := as
          have bs2 : ((atP B n (if lm = 5 then 8 else 6) 5) (nxP B n ps)).1 ≠ 0 → rs.toInt = 0 ∧ flR gs A ((atP B n (if lm = 5 then 8 else 6) 5) (nxP B n ps)).1 ((atP B n (if lm = 5 then 8 else 6) 5) (nxP B n ps)).2.1 := bs
          have ofs : frM A [8] [2, 3, 4, 5, 9, 11, 12] f gs := frM_tr ofr (frM_tr (frM_su o30 (by decide) (by decide)) os)
          obtain ⟨cs, ts, ks⟩ := as2 hq
          refine t_ifne (t := 43) dX5_readTerm_38 (by decide) (fun h38 => ?_) (fun h38 => False.elim (by omega))
          refine r_aloadR0 dX5_readTerm_43 ?_
          refine n_sipush dX5_readTerm_44 (by decide) (fun r44 e44 => ?_)
          refine q_callV1 zm_RX5_173 dX5_readTerm_47 hr.1 (by decide) rfl (Nat.le_of_ble_eq_true rfl) (Nat.le_of_ble_eq_true rfl) (Nat.le_of_ble_eq_true rfl) (Nat.le_of_ble_eq_true rfl) (Nat.le_of_ble_eq_true rfl) (s_X5_emit (u := u + c.length + ((atP B n (if lm = 5 then 8 else 6) 5) (nxP B n ps)).2.2.length) G hr ks.1 (by omega) (fun g47 o47 a47 b47 c47 => ?_))
          refine n_iinc2 dX5_readTerm_50 (by decide) rfl (by omega) (fun r50 e50 => ?_)
          refine r_goto (t := 12) dX5_readTerm_53 (by decide) ?_
          refine ih _ (i + 1) k2_z ((atP B n (if lm = 5 then 8 else 6) 5) (nxP B n ps)).2.1 (c ++ ((atP B n (if lm = 5 then 8 else 6) 5) (nxP B n ps)).2.2 ++ [(opT B n) ps]) g47 _ (by omega) (frM_tr ofs (frM_su o47 (by decide) (by decide))) (tkR_of ts o47 (by decide) (by decide) (by decide) (by decide)) (okR_ap (okR_ap hok (okR_cg ks wn rfl rfl)) ?_) (by omega) y2 ?_ (by omega) ?_ (by omega)
          · rw [List.length_append, ← Nat.add_assoc, hop]
            exact okR_one a47 b47 c47 (by omega)
          · rw [List.length_append, List.length_append, List.length_singleton]
            omega
          · exact (lpP_on (r := (0, ps, c)) rfl hop0 hq).symm.trans hR
        · have hv : ((atP B n (if lm = 5 then 8 else 6) 5) (nxP B n ps)) = chP B n (atP B n (if lm = 5 then 8 else 6) 5) (opT B n) p := (lpP_sub (k := k2_z) (r := (0, ps, c)) rfl hop0 hq).symm.trans hR
          refine r_iload2 dX5_readTerm_12 ?_
          refine r_aloadR0 dX5_readTerm_13 ?_
          refine m_getV (x := (f2_z A 1)) zf_RX5_15 rfl dX5_readTerm_14 hr.1 (rfl) ?_
          refine t_icge (t := 56) dX5_readTerm_17 (by decide) (fun h17 => False.elim (by omega)) (fun h17 => ?_)
          refine r_aloadR0 dX5_readTerm_20 ?_
          refine m_getV (x := (f2_z A 4)) zf_RX5_25 rfl dX5_readTerm_21 hr.1 (rfl) ?_
          refine n_bipush dX5_readTerm_24 (by decide) (fun r24 e24_z => ?_)
          refine t_icne (t := 56) dX5_readTerm_26 (by decide) (fun h26 => False.elim (by omega)) (fun h26 => ?_)
          refine r_aloadR0 dX5_readTerm_29 ?_
          refine q_callV0 zm_RX5_73 dX5_readTerm_30 hr.1 (by decide) rfl (Nat.le_of_ble_eq_true rfl) (Nat.le_of_ble_eq_true rfl) (Nat.le_of_ble_eq_true rfl) (Nat.le_of_ble_eq_true rfl) (Nat.le_of_ble_eq_true rfl) (s_X5_next (p := teP B n ps) G hr kw ko htp2 htk2.2.1 (teP_le htk2.1) htk2.2.2.2.2.2.2 (fun v30 g30 o30 t30 => ?_))
          have t30 : tkR ca B n g30 v30 A (nxP B n ps) := t30
          have htpn := tpR_of htp2 ht o30 (by decide)
          have wn : g30 (A + 8) = f2_z (A + 8) := o30.2.1 8 (by decide) (by decide) (by decide)
          refine r_aloadR0 dX5_readTerm_33 ?_
          refine r_iload1 dX5_readTerm_34 ?_
          refine q_callV1 zm_RX5_194 dX5_readTerm_35 hr.1 (by decide) rfl (Nat.le_of_ble_eq_true rfl) (Nat.le_of_ble_eq_true rfl) (Nat.le_of_ble_eq_true rfl) (Nat.le_of_ble_eq_true rfl) (Nat.le_of_ble_eq_true rfl) (s_X5_readAtom_5 (lm := lm) (u := u + c.length) G hr kw ko htpn t30 hx (by rw [o30.2.2 10 (by decide), ofr.2.2 10 (by decide)]; exact hol) (by rw [o30.2.2 9 (by decide)]; exact hok.1) (by omega) (fun rs vs gs os as bs => ?_))
          have as2 : ((atP B n (if lm = 5 then 8 else 6) 5) (nxP B n ps)).1 = 0 → rs.toInt = 1 ∧ tkR ca B n gs vs A ((atP B n (if lm = 5 then 8 else 6) 5) (nxP B n ps)).2.1 ∧ okR g30 gs A (u + c.length) ((atP B n (if lm = 5 then 8 else 6) 5) (nxP B n ps)).2.2 := as
          have bs2 : ((atP B n (if lm = 5 then 8 else 6) 5) (nxP B n ps)).1 ≠ 0 → rs.toInt = 0 ∧ flR gs A ((atP B n (if lm = 5 then 8 else 6) 5) (nxP B n ps)).1 ((atP B n (if lm = 5 then 8 else 6) 5) (nxP B n ps)).2.1 := bs
          have ofs : frM A [8] [2, 3, 4, 5, 9, 11, 12] f gs := frM_tr ofr (frM_tr (frM_su o30 (by decide) (by decide)) os)
          obtain ⟨cs, ls⟩ := bs2 hq
          refine t_ifne (t := 43) dX5_readTerm_38 (by decide) (fun h38 => False.elim (by omega)) (fun h38 => ?_)
          refine n_iconst dX5_readTerm_41 (by decide) (fun r41 e41_z => ?_)
          refine m_zret dX5_readTerm_42 rfl (by omega) (Nat.le_of_ble_eq_true rfl) (Nat.le_of_ble_eq_true rfl) ?_
          rw [← hv] at hQ
          exact hQ _ _ gs ofs (fun h_z => absurd h_z hq) (fun _ => ⟨e41_z, ls⟩)
      have hop : (opT B n) ps = 0 := if_neg hc_z
      have hv := (lpP_end (B := B) (n := n) (k := k) (sub := (atP B n (if lm = 5 then 8 else 6) 5)) (r := (0, ps, c)) hop).symm.trans hR
      refine r_iload2 dX5_readTerm_12 ?_
      refine r_aloadR0 dX5_readTerm_13 ?_
      refine m_getV (x := (f2_z A 1)) zf_RX5_15 rfl dX5_readTerm_14 hr.1 (rfl) ?_
      refine t_icge (t := 56) dX5_readTerm_17 (by decide) (fun h17 => False.elim (by omega)) (fun h17 => ?_)
      refine r_aloadR0 dX5_readTerm_20 ?_
      refine m_getV (x := (f2_z A 4)) zf_RX5_25 rfl dX5_readTerm_21 hr.1 (rfl) ?_
      refine n_bipush dX5_readTerm_24 (by decide) (fun r24 e24_z => ?_)
      refine t_icne (t := 56) dX5_readTerm_26 (by decide) (fun h26 => ?_) (fun h26 => False.elim (by omega))
      refine n_iconst dX5_readTerm_56 (by decide) (fun r56 e56 => ?_)
      refine m_zret dX5_readTerm_57 rfl (by omega) (Nat.le_of_ble_eq_true rfl) (Nat.le_of_ble_eq_true rfl) ?_
      rw [← hv] at hQ
      exact hQ _ _ f2_z ofr (fun _ => ⟨e56, htk2, hok⟩) (fun h_z => absurd rfl h_z)
  have gp := hgd p hpn
  by_cases hq : ((atP B n (if lm = 5 then 8 else 6) 5) p).1 = 0
  · obtain ⟨y1, y2, y3, y4⟩ := gp.1 hq
    have hz : ((atP B n (if lm = 5 then 8 else 6) 5) p) = (0, ((atP B n (if lm = 5 then 8 else 6) 5) p).2.1, ((atP B n (if lm = 5 then 8 else 6) 5) p).2.2) := Prod.ext hq rfl
    refine r_aloadR0 dX5_readTerm_0 ?_
    refine r_iload1 dX5_readTerm_1 ?_
    refine q_callV1 zm_RX5_194 dX5_readTerm_2 hr.1 (by decide) rfl (Nat.le_of_ble_eq_true rfl) (Nat.le_of_ble_eq_true rfl) (Nat.le_of_ble_eq_true rfl) (Nat.le_of_ble_eq_true rfl) (Nat.le_of_ble_eq_true rfl) (s_X5_readAtom_5 G hr kw ko htp htk hx hol hu hup (fun r2 v2 g2 o2 a2 b2 => ?_))
    have a2b : ((atP B n (if lm = 5 then 8 else 6) 5) p).1 = 0 → r2.toInt = 1 ∧ tkR ca B n g2 v2 A ((atP B n (if lm = 5 then 8 else 6) 5) p).2.1 ∧ okR f g2 A u ((atP B n (if lm = 5 then 8 else 6) 5) p).2.2 := a2
    have b2b : ((atP B n (if lm = 5 then 8 else 6) 5) p).1 ≠ 0 → r2.toInt = 0 ∧ flR g2 A ((atP B n (if lm = 5 then 8 else 6) 5) p).1 ((atP B n (if lm = 5 then 8 else 6) 5) p).2.1 := b2
    obtain ⟨c2_z, t2, k2_z⟩ := a2b hq
    refine t_ifne (t := 10) dX5_readTerm_5 (by decide) (fun h5 => ?_) (fun h5 => False.elim (by omega))
    refine n_iconst dX5_readTerm_10 (by decide) (fun r10 e10_z => ?_)
    refine r_istore2 dX5_readTerm_11 rfl ?_
    exact lp (n + 1) _ 0 n ((atP B n (if lm = 5 then 8 else 6) 5) p).2.1 ((atP B n (if lm = 5 then 8 else 6) 5) p).2.2 g2 _ (by omega) o2 t2 k2_z (by omega) y2 y3 (by omega) (by rw [← hz]; rfl) (Nat.lt_succ_self n)
  · have hv : chP B n (atP B n (if lm = 5 then 8 else 6) 5) (opT B n) p = ((atP B n (if lm = 5 then 8 else 6) 5) p) := lpP_bad hq
    rw [hv] at hQ
    refine r_aloadR0 dX5_readTerm_0 ?_
    refine r_iload1 dX5_readTerm_1 ?_
    refine q_callV1 zm_RX5_194 dX5_readTerm_2 hr.1 (by decide) rfl (Nat.le_of_ble_eq_true rfl) (Nat.le_of_ble_eq_true rfl) (Nat.le_of_ble_eq_true rfl) (Nat.le_of_ble_eq_true rfl) (Nat.le_of_ble_eq_true rfl) (s_X5_readAtom_5 G hr kw ko htp htk hx hol hu hup (fun r2 v2 g2 o2 a2 b2 => ?_))
    have a2b : ((atP B n (if lm = 5 then 8 else 6) 5) p).1 = 0 → r2.toInt = 1 ∧ tkR ca B n g2 v2 A ((atP B n (if lm = 5 then 8 else 6) 5) p).2.1 ∧ okR f g2 A u ((atP B n (if lm = 5 then 8 else 6) 5) p).2.2 := a2
    have b2b : ((atP B n (if lm = 5 then 8 else 6) 5) p).1 ≠ 0 → r2.toInt = 0 ∧ flR g2 A ((atP B n (if lm = 5 then 8 else 6) 5) p).1 ((atP B n (if lm = 5 then 8 else 6) 5) p).2.1 := b2
    obtain ⟨c2_z, l2⟩ := b2b hq
    refine t_ifne (t := 10) dX5_readTerm_5 (by decide) (fun h5 => False.elim (by omega)) (fun h5 => ?_)
    refine n_iconst dX5_readTerm_8 (by decide) (fun r8 e8 => ?_)
    refine m_zret dX5_readTerm_9 rfl (by omega) (Nat.le_of_ble_eq_true rfl) (Nat.le_of_ble_eq_true rfl) ?_
    exact hQ _ _ g2 o2 (fun h_z => absurd h_z hq) (fun _ => ⟨e8, l2⟩)
set_option maxHeartbeats 4000000 in
set_option maxRecDepth 100000 in
theorem s_X5_readSum_5 {g : zGT} {w : zW} {f : Nat → Nat → Int32} {j : Nat → Nat → Int64} {A tq nq : Nat} {v : Option Nat} {B : Nat → Nat} {n : Nat} {ca wa wv : Nat → Nat} {kq ta sm gq gv : Nat} {p lm u : Nat} {x : Int32} {Q : Option Value → zW → Prop} {QX : String → zW → Prop} (G : zGok g) (hr : shRd w A tq nq) (kw : kWd g wa wv kq) (ko : kWo g ca wa wv ta sm gq gv) (htp : tpR B n f A tq) (htk : tkR ca B n f v A p) (hx : x.toInt = 1) (hol : (f A 10).toInt = if lm = 5 then 1 else 0) (hu : (f A 9).toInt = (u : Nat)) (hup : u ≤ p) (hQ : ∀ (b : Int32) v2 f2_z, frM A [8] [2, 3, 4, 5, 9, 11, 12] f f2_z → ((chP B n (chP B n (atP B n (if lm = 5 then 8 else 6) 5) (opT B n)) (opS B n) p).1 = 0 → b.toInt = 1 ∧ tkR ca B n f2_z v2 A (chP B n (chP B n (atP B n (if lm = 5 then 8 else 6) 5) (opT B n)) (opS B n) p).2.1 ∧ okR f f2_z A u (chP B n (chP B n (atP B n (if lm = 5 then 8 else 6) 5) (opT B n)) (opS B n) p).2.2) → ((chP B n (chP B n (atP B n (if lm = 5 then 8 else 6) 5) (opT B n)) (opS B n) p).1 ≠ 0 → b.toInt = 0 ∧ flR f2_z A (chP B n (chP B n (atP B n (if lm = 5 then 8 else 6) 5) (opT B n)) (opS B n) p).1 (chP B n (chP B n (atP B n (if lm = 5 then 8 else 6) 5) (opT B n)) (opS B n) p).2.1) → Q (some (.int b)) (zM (wW w A v2) f2_z j)) : zC g 32 yX5_readSum cX5_readSum 4 (some .boolean) [.ref A, .int x] (zM (wW w A v) f j) (0, 0) Q QX := by
  refine zC_of G (by decide +kernel) (Nat.le_of_ble_eq_true rfl) ?_
  have ht := hr.2.2.2.2.2.2
  have h4 := htk.2.2.2.1
  have hpn := htk.1
  have h900 := htp.2.1
  have hgd : ∀ s, s ≤ n → gdP n false (if lm = 5 then 8 else 6) (1 + 2 * 5 + 1) s ((chP B n (atP B n (if lm = 5 then 8 else 6) 5) (opT B n)) s) := fun s hs9 => gd_ch (gd_at (by split <;> decide) 5) hop_T hs9
  have lp : ∀ (mz : Nat) (uu : Int32) (i : Nat) (k : Nat) (ps : Nat) (c : List Nat) (f2_z : Nat → Nat → Int32) (vv : Option Nat) (v3_ : Option Value), uu.toInt = (i : Nat) → frM A [8] [2, 3, 4, 5, 9, 11, 12] f f2_z → tkR ca B n f2_z vv A ps → okR f f2_z A u c → p + i < ps → ps ≤ n → c.length + p ≤ ps → n ≤ k + ps → lpP B n (chP B n (atP B n (if lm = 5 then 8 else 6) 5) (opT B n)) (opS B n) k (0, ps, c) = chP B n (chP B n (atP B n (if lm = 5 then 8 else 6) 5) (opT B n)) (opS B n) p → k < mz → zR (zV g 32 yX5_readSum 4 (some .boolean) (0, 0) Q QX) cX5_readSum yX5_readSum.cls 12 [some (.ref A), some (.int x), some (.int uu), v3_] [] (zM (wW w A vv) f2_z j) (0, 0) := by
    intro mz
    induction mz with
    | zero =>
      intro uu i k ps c f2_z vv v3_ hui ofr htk2 hok hpi hps hcl hnk hR hmz
      exact absurd hmz (Nat.not_lt_zero _)
    | succ mz ih =>
      intro uu i k ps c f2_z vv v3_ hui ofr htk2 hok hpi hps hcl hnk hR hmz
      have htp2 := tpR_of htp ht ofr (by decide)
      have h1 := htp2.1
      have htk4 := htk2.2.2.2.1
      have hi9 : i < n := by omega
      by_cases hc_z : tkP B n ps = 43
      · have hop : (opS B n) ps = 2003 := if_pos hc_z
        have hop0 : (opS B n) ps ≠ 0 := by rw [hop]; decide
        have hln := tk_lt (B := B) (n := n) (s := ps) (by rw [hc_z]; decide)
        obtain ⟨k2_z, rfl⟩ : ∃ k2_z, k = k2_z + 1 := ⟨k - 1, by omega⟩
        have hnx := nxP_gt (B := B) hln
        have gq := hgd _ hnx.2
        by_cases hq : ((chP B n (atP B n (if lm = 5 then 8 else 6) 5) (opT B n)) (nxP B n ps)).1 = 0
        · obtain ⟨y1, y2, y3, y4⟩ := gq.1 hq
          refine r_iload2 dX5_readSum_12 ?_
          refine r_aloadR0 dX5_readSum_13 ?_
          refine m_getV (x := (f2_z A 1)) zf_RX5_15 rfl dX5_readSum_14 hr.1 (rfl) ?_
          refine t_icge (t := 82) dX5_readSum_17 (by decide) (fun h17 => False.elim (by omega)) (fun h17 => ?_)
          refine r_aloadR0 dX5_readSum_20 ?_
          refine m_getV (x := (f2_z A 4)) zf_RX5_25 rfl dX5_readSum_21 hr.1 (rfl) ?_
          refine n_bipush dX5_readSum_24 (by decide) (fun r24 e24_z => ?_)
          refine t_iceq (t := 38) dX5_readSum_26 (by decide) (fun h26 => ?_) (fun h26 => False.elim (by omega))
          refine r_aloadR0 dX5_readSum_38 ?_
          refine m_getV (x := (f2_z A 4)) zf_RX5_25 rfl dX5_readSum_39 hr.1 (rfl) ?_
          refine n_bipush dX5_readSum_42 (by decide) (fun r42 e42_z => ?_)
          refine t_icne (t := 53) dX5_readSum_44 (by decide) (fun h44 => False.elim (by omega)) (fun h44 => ?_)
          refine n_sipush dX5_readSum_47 (by decide) (fun r47 e47 => ?_)
          refine r_goto (t := 56) dX5_readSum_50 (by decide) ?_
          refine r_istore3 dX5_readSum_56 rfl ?_
          refine r_aloadR0 dX5_readSum_57 ?_
          refine q_callV0 zm_RX5_73 dX5_readSum_58 hr.1 (by decide) rfl (Nat.le_of_ble_eq_true rfl) (Nat.le_of_ble_eq_true rfl) (Nat.le_of_ble_eq_true rfl) (Nat.le_of_ble_eq_true rfl) (Nat.le_of_ble_eq_true rfl) (s_X5_next (p := teP B n ps) G hr kw ko htp2 htk2.2.1 (teP_le htk2.1) htk2.2.2.2.2.2.2 (fun v58 g58 o58 t58 => ?_))
          have t58 : tkR ca B n g58 v58 A (nxP B n ps) := t58
          have htpn := tpR_of htp2 ht o58 (by decide)
          have wn : g58 (A + 8) = f2_z (A + 8) := o58.2.1 8 (by decide) (by decide) (by decide)
          refine r_aloadR0 dX5_readSum_61 ?_
          refine r_iload1 dX5_readSum_62 ?_
          refine q_callV1 zm_RX5_191 dX5_readSum_63 hr.1 (by decide) rfl (Nat.le_of_ble_eq_true rfl) (Nat.le_of_ble_eq_true rfl) (Nat.le_of_ble_eq_true rfl) (Nat.le_of_ble_eq_true rfl) (Nat.le_of_ble_eq_true rfl) (s_X5_readTerm_5 (lm := lm) (u := u + c.length) G hr kw ko htpn t58 hx (by rw [o58.2.2 10 (by decide), ofr.2.2 10 (by decide)]; exact hol) (by rw [o58.2.2 9 (by decide)]; exact hok.1) (by omega) (fun rs vs gs os as bs => ?_))
          have as2 : ((chP B n (atP B n (if lm = 5 then 8 else 6) 5) (opT B n)) (nxP B n ps)).1 = 0 → rs.toInt = 1 ∧ tkR ca B n gs vs A ((chP B n (atP B n (if lm = 5 then 8 else 6) 5) (opT B n)) (nxP B n ps)).2.1 ∧ okR g58 gs A (u + c.length) ((chP B n (atP B n (if lm = 5 then 8 else 6) 5) (opT B n)) (nxP B n ps)).2.2 := as
          have bs2 : ((chP B n (atP B n (if lm = 5 then 8 else 6) 5) (opT B n)) (nxP B n ps)).1 ≠ 0 → rs.toInt = 0 ∧ flR gs A ((chP B n (atP B n (if lm = 5 then 8 else 6) 5) (opT B n)) (nxP B n ps)).1 ((chP B n (atP B n (if lm = 5 then 8 else 6) 5) (opT B n)) (nxP B n ps)).2.1 := bs
          have ofs : frM A [8] [2, 3, 4, 5, 9, 11, 12] f gs := frM_tr ofr (frM_tr (frM_su o58 (by decide) (by decide)) os)
          obtain ⟨cs, ts, ks⟩ := as2 hq
          refine t_ifne (t := 71) dX5_readSum_66 (by decide) (fun h66 => ?_) (fun h66 => False.elim (by omega))
          refine r_aloadR0 dX5_readSum_71 ?_
          refine r_iload3 dX5_readSum_72 ?_
          refine q_callV1 zm_RX5_173 dX5_readSum_73 hr.1 (by decide) rfl (Nat.le_of_ble_eq_true rfl) (Nat.le_of_ble_eq_true rfl) (Nat.le_of_ble_eq_true rfl) (Nat.le_of_ble_eq_true rfl) (Nat.le_of_ble_eq_true rfl) (s_X5_emit (u := u + c.length + ((chP B n (atP B n (if lm = 5 then 8 else 6) 5) (opT B n)) (nxP B n ps)).2.2.length) G hr ks.1 (by omega) (fun g73 o73 a73 b73 c73 => ?_))
          refine n_iinc2 dX5_readSum_76 (by decide) rfl (by omega) (fun r76 e76 => ?_)
          refine r_goto (t := 12) dX5_readSum_79 (by decide) ?_
          refine ih _ (i + 1) k2_z ((chP B n (atP B n (if lm = 5 then 8 else 6) 5) (opT B n)) (nxP B n ps)).2.1 (c ++ ((chP B n (atP B n (if lm = 5 then 8 else 6) 5) (opT B n)) (nxP B n ps)).2.2 ++ [(opS B n) ps]) g73 _ _ (by omega) (frM_tr ofs (frM_su o73 (by decide) (by decide))) (tkR_of ts o73 (by decide) (by decide) (by decide) (by decide)) (okR_ap (okR_ap hok (okR_cg ks wn rfl rfl)) ?_) (by omega) y2 ?_ (by omega) ?_ (by omega)
          · rw [List.length_append, ← Nat.add_assoc, hop]
            exact okR_one a73 b73 c73 (by omega)
          · rw [List.length_append, List.length_append, List.length_singleton]
            omega
          · exact (lpP_on (r := (0, ps, c)) rfl hop0 hq).symm.trans hR
        · have hv : ((chP B n (atP B n (if lm = 5 then 8 else 6) 5) (opT B n)) (nxP B n ps)) = chP B n (chP B n (atP B n (if lm = 5 then 8 else 6) 5) (opT B n)) (opS B n) p := (lpP_sub (k := k2_z) (r := (0, ps, c)) rfl hop0 hq).symm.trans hR
          refine r_iload2 dX5_readSum_12 ?_
          refine r_aloadR0 dX5_readSum_13 ?_
          refine m_getV (x := (f2_z A 1)) zf_RX5_15 rfl dX5_readSum_14 hr.1 (rfl) ?_
          refine t_icge (t := 82) dX5_readSum_17 (by decide) (fun h17 => False.elim (by omega)) (fun h17 => ?_)
          refine r_aloadR0 dX5_readSum_20 ?_
          refine m_getV (x := (f2_z A 4)) zf_RX5_25 rfl dX5_readSum_21 hr.1 (rfl) ?_
          refine n_bipush dX5_readSum_24 (by decide) (fun r24 e24_z => ?_)
          refine t_iceq (t := 38) dX5_readSum_26 (by decide) (fun h26 => ?_) (fun h26 => False.elim (by omega))
          refine r_aloadR0 dX5_readSum_38 ?_
          refine m_getV (x := (f2_z A 4)) zf_RX5_25 rfl dX5_readSum_39 hr.1 (rfl) ?_
          refine n_bipush dX5_readSum_42 (by decide) (fun r42 e42_z => ?_)
          refine t_icne (t := 53) dX5_readSum_44 (by decide) (fun h44 => False.elim (by omega)) (fun h44 => ?_)
          refine n_sipush dX5_readSum_47 (by decide) (fun r47 e47 => ?_)
          refine r_goto (t := 56) dX5_readSum_50 (by decide) ?_
          refine r_istore3 dX5_readSum_56 rfl ?_
          refine r_aloadR0 dX5_readSum_57 ?_
          refine q_callV0 zm_RX5_73 dX5_readSum_58 hr.1 (by decide) rfl (Nat.le_of_ble_eq_true rfl) (Nat.le_of_ble_eq_true rfl) (Nat.le_of_ble_eq_true rfl) (Nat.le_of_ble_eq_true rfl) (Nat.le_of_ble_eq_true rfl) (s_X5_next (p := teP B n ps) G hr kw ko htp2 htk2.2.1 (teP_le htk2.1) htk2.2.2.2.2.2.2 (fun v58 g58 o58 t58 => ?_))
          have t58 : tkR ca B n g58 v58 A (nxP B n ps) := t58
          have htpn := tpR_of htp2 ht o58 (by decide)
          have wn : g58 (A + 8) = f2_z (A + 8) := o58.2.1 8 (by decide) (by decide) (by decide)
          refine r_aloadR0 dX5_readSum_61 ?_
          refine r_iload1 dX5_readSum_62 ?_
          refine q_callV1 zm_RX5_191 dX5_readSum_63 hr.1 (by decide) rfl (Nat.le_of_ble_eq_true rfl) (Nat.le_of_ble_eq_true rfl) (Nat.le_of_ble_eq_true rfl) (Nat.le_of_ble_eq_true rfl) (Nat.le_of_ble_eq_true rfl) (s_X5_readTerm_5 (lm := lm) (u := u + c.length) G hr kw ko htpn t58 hx (by rw [o58.2.2 10 (by decide), ofr.2.2 10 (by decide)]; exact hol) (by rw [o58.2.2 9 (by decide)]; exact hok.1) (by omega) (fun rs vs gs os as bs => ?_))
          have as2 : ((chP B n (atP B n (if lm = 5 then 8 else 6) 5) (opT B n)) (nxP B n ps)).1 = 0 → rs.toInt = 1 ∧ tkR ca B n gs vs A ((chP B n (atP B n (if lm = 5 then 8 else 6) 5) (opT B n)) (nxP B n ps)).2.1 ∧ okR g58 gs A (u + c.length) ((chP B n (atP B n (if lm = 5 then 8 else 6) 5) (opT B n)) (nxP B n ps)).2.2 := as
          have bs2 : ((chP B n (atP B n (if lm = 5 then 8 else 6) 5) (opT B n)) (nxP B n ps)).1 ≠ 0 → rs.toInt = 0 ∧ flR gs A ((chP B n (atP B n (if lm = 5 then 8 else 6) 5) (opT B n)) (nxP B n ps)).1 ((chP B n (atP B n (if lm = 5 then 8 else 6) 5) (opT B n)) (nxP B n ps)).2.1 := bs
          have ofs : frM A [8] [2, 3, 4, 5, 9, 11, 12] f gs := frM_tr ofr (frM_tr (frM_su o58 (by decide) (by decide)) os)
          obtain ⟨cs, ls⟩ := bs2 hq
          refine t_ifne (t := 71) dX5_readSum_66 (by decide) (fun h66 => False.elim (by omega)) (fun h66 => ?_)
          refine n_iconst dX5_readSum_69 (by decide) (fun r69 e69 => ?_)
          refine m_zret dX5_readSum_70 rfl (by omega) (Nat.le_of_ble_eq_true rfl) (Nat.le_of_ble_eq_true rfl) ?_
          rw [← hv] at hQ
          exact hQ _ _ gs ofs (fun h_z => absurd h_z hq) (fun _ => ⟨e69, ls⟩)
      have hcn := hc_z
      clear hc_z
      by_cases hc_z : tkP B n ps = 45
      · have hop : (opS B n) ps = 2004 := (if_neg (by omega)).trans (if_pos hc_z)
        have hop0 : (opS B n) ps ≠ 0 := by rw [hop]; decide
        have hln := tk_lt (B := B) (n := n) (s := ps) (by rw [hc_z]; decide)
        obtain ⟨k2_z, rfl⟩ : ∃ k2_z, k = k2_z + 1 := ⟨k - 1, by omega⟩
        have hnx := nxP_gt (B := B) hln
        have gq := hgd _ hnx.2
        by_cases hq : ((chP B n (atP B n (if lm = 5 then 8 else 6) 5) (opT B n)) (nxP B n ps)).1 = 0
        · obtain ⟨y1, y2, y3, y4⟩ := gq.1 hq
          refine r_iload2 dX5_readSum_12 ?_
          refine r_aloadR0 dX5_readSum_13 ?_
          refine m_getV (x := (f2_z A 1)) zf_RX5_15 rfl dX5_readSum_14 hr.1 (rfl) ?_
          refine t_icge (t := 82) dX5_readSum_17 (by decide) (fun h17 => False.elim (by omega)) (fun h17 => ?_)
          refine r_aloadR0 dX5_readSum_20 ?_
          refine m_getV (x := (f2_z A 4)) zf_RX5_25 rfl dX5_readSum_21 hr.1 (rfl) ?_
          refine n_bipush dX5_readSum_24 (by decide) (fun r24 e24_z => ?_)
          refine t_iceq (t := 38) dX5_readSum_26 (by decide) (fun h26 => False.elim (by omega)) (fun h26 => ?_)
          refine r_aloadR0 dX5_readSum_29 ?_
          refine m_getV (x := (f2_z A 4)) zf_RX5_25 rfl dX5_readSum_30 hr.1 (rfl) ?_
          refine n_bipush dX5_readSum_33 (by decide) (fun r33 e33_z => ?_)
          refine t_icne (t := 82) dX5_readSum_35 (by decide) (fun h35 => False.elim (by omega)) (fun h35 => ?_)
          refine r_aloadR0 dX5_readSum_38 ?_
          refine m_getV (x := (f2_z A 4)) zf_RX5_25 rfl dX5_readSum_39 hr.1 (rfl) ?_
          refine n_bipush dX5_readSum_42 (by decide) (fun r42 e42_z => ?_)
          refine t_icne (t := 53) dX5_readSum_44 (by decide) (fun h44 => ?_) (fun h44 => False.elim (by omega))
          refine n_sipush dX5_readSum_53 (by decide) (fun r53 e53 => ?_)
          refine r_istore3 dX5_readSum_56 rfl ?_
          refine r_aloadR0 dX5_readSum_57 ?_
          refine q_callV0 zm_RX5_73 dX5_readSum_58 hr.1 (by decide) rfl (Nat.le_of_ble_eq_true rfl) (Nat.le_of_ble_eq_true rfl) (Nat.le_of_ble_eq_true rfl) (Nat.le_of_ble_eq_true rfl) (Nat.le_of_ble_eq_true rfl) (s_X5_next (p := teP B n ps) G hr kw ko htp2 htk2.2.1 (teP_le htk2.1) htk2.2.2.2.2.2.2 (fun v58 g58 o58 t58 => ?_))
          have t58 : tkR ca B n g58 v58 A (nxP B n ps) := t58
          have htpn := tpR_of htp2 ht o58 (by decide)
          have wn : g58 (A + 8) = f2_z (A + 8) := o58.2.1 8 (by decide) (by decide) (by decide)
          refine r_aloadR0 dX5_readSum_61 ?_
          refine r_iload1 dX5_readSum_62 ?_
          refine q_callV1 zm_RX5_191 dX5_readSum_63 hr.1 (by decide) rfl (Nat.le_of_ble_eq_true rfl) (Nat.le_of_ble_eq_true rfl) (Nat.le_of_ble_eq_true rfl) (Nat.le_of_ble_eq_true rfl) (Nat.le_of_ble_eq_true rfl) (s_X5_readTerm_5 (lm := lm) (u := u + c.length) G hr kw ko htpn t58 hx (by rw [o58.2.2 10 (by decide), ofr.2.2 10 (by decide)]; exact hol) (by rw [o58.2.2 9 (by decide)]; exact hok.1) (by omega) (fun rs vs gs os as bs => ?_))
          have as2 : ((chP B n (atP B n (if lm = 5 then 8 else 6) 5) (opT B n)) (nxP B n ps)).1 = 0 → rs.toInt = 1 ∧ tkR ca B n gs vs A ((chP B n (atP B n (if lm = 5 then 8 else 6) 5) (opT B n)) (nxP B n ps)).2.1 ∧ okR g58 gs A (u + c.length) ((chP B n (atP B n (if lm = 5 then 8 else 6) 5) (opT B n)) (nxP B n ps)).2.2 := as
          have bs2 : ((chP B n (atP B n (if lm = 5 then 8 else 6) 5) (opT B n)) (nxP B n ps)).1 ≠ 0 → rs.toInt = 0 ∧ flR gs A ((chP B n (atP B n (if lm = 5 then 8 else 6) 5) (opT B n)) (nxP B n ps)).1 ((chP B n (atP B n (if lm = 5 then 8 else 6) 5) (opT B n)) (nxP B n ps)).2.1 := bs
          have ofs : frM A [8] [2, 3, 4, 5, 9, 11, 12] f gs := frM_tr ofr (frM_tr (frM_su o58 (by decide) (by decide)) os)
          obtain ⟨cs, ts, ks⟩ := as2 hq
          refine t_ifne (t := 71) dX5_readSum_66 (by decide) (fun h66 => ?_) (fun h66 => False.elim (by omega))
          refine r_aloadR0 dX5_readSum_71 ?_
          refine r_iload3 dX5_readSum_72 ?_
          refine q_callV1 zm_RX5_173 dX5_readSum_73 hr.1 (by decide) rfl (Nat.le_of_ble_eq_true rfl) (Nat.le_of_ble_eq_true rfl) (Nat.le_of_ble_eq_true rfl) (Nat.le_of_ble_eq_true rfl) (Nat.le_of_ble_eq_true rfl) (s_X5_emit (u := u + c.length + ((chP B n (atP B n (if lm = 5 then 8 else 6) 5) (opT B n)) (nxP B n ps)).2.2.length) G hr ks.1 (by omega) (fun g73 o73 a73 b73 c73 => ?_))
          refine n_iinc2 dX5_readSum_76 (by decide) rfl (by omega) (fun r76 e76 => ?_)
          refine r_goto (t := 12) dX5_readSum_79 (by decide) ?_
          refine ih _ (i + 1) k2_z ((chP B n (atP B n (if lm = 5 then 8 else 6) 5) (opT B n)) (nxP B n ps)).2.1 (c ++ ((chP B n (atP B n (if lm = 5 then 8 else 6) 5) (opT B n)) (nxP B n ps)).2.2 ++ [(opS B n) ps]) g73 _ _ (by omega) (frM_tr ofs (frM_su o73 (by decide) (by decide))) (tkR_of ts o73 (by decide) (by decide) (by decide) (by decide)) (okR_ap (okR_ap hok (okR_cg ks wn rfl rfl)) ?_) (by omega) y2 ?_ (by omega) ?_ (by omega)
          · rw [List.length_append, ← Nat.add_assoc, hop]
            exact okR_one a73 b73 c73 (by omega)
          · rw [List.length_append, List.length_append, List.length_singleton]
            omega
          · exact (lpP_on (r := (0, ps, c)) rfl hop0 hq).symm.trans hR
        · have hv : ((chP B n (atP B n (if lm = 5 then 8 else 6) 5) (opT B n)) (nxP B n ps)) = chP B n (chP B n (atP B n (if lm = 5 then 8 else 6) 5) (opT B n)) (opS B n) p := (lpP_sub (k := k2_z) (r := (0, ps, c)) rfl hop0 hq).symm.trans hR
          refine r_iload2 dX5_readSum_12 ?_
          refine r_aloadR0 dX5_readSum_13 ?_
          refine m_getV (x := (f2_z A 1)) zf_RX5_15 rfl dX5_readSum_14 hr.1 (rfl) ?_
          refine t_icge (t := 82) dX5_readSum_17 (by decide) (fun h17 => False.elim (by omega)) (fun h17 => ?_)
          refine r_aloadR0 dX5_readSum_20 ?_
          refine m_getV (x := (f2_z A 4)) zf_RX5_25 rfl dX5_readSum_21 hr.1 (rfl) ?_
          refine n_bipush dX5_readSum_24 (by decide) (fun r24 e24_z => ?_)
          refine t_iceq (t := 38) dX5_readSum_26 (by decide) (fun h26 => False.elim (by omega)) (fun h26 => ?_)
          refine r_aloadR0 dX5_readSum_29 ?_
          refine m_getV (x := (f2_z A 4)) zf_RX5_25 rfl dX5_readSum_30 hr.1 (rfl) ?_
          refine n_bipush dX5_readSum_33 (by decide) (fun r33 e33_z => ?_)
          refine t_icne (t := 82) dX5_readSum_35 (by decide) (fun h35 => False.elim (by omega)) (fun h35 => ?_)
          refine r_aloadR0 dX5_readSum_38 ?_
          refine m_getV (x := (f2_z A 4)) zf_RX5_25 rfl dX5_readSum_39 hr.1 (rfl) ?_
          refine n_bipush dX5_readSum_42 (by decide) (fun r42 e42_z => ?_)
          refine t_icne (t := 53) dX5_readSum_44 (by decide) (fun h44 => ?_) (fun h44 => False.elim (by omega))
          refine n_sipush dX5_readSum_53 (by decide) (fun r53 e53 => ?_)
          refine r_istore3 dX5_readSum_56 rfl ?_
          refine r_aloadR0 dX5_readSum_57 ?_
          refine q_callV0 zm_RX5_73 dX5_readSum_58 hr.1 (by decide) rfl (Nat.le_of_ble_eq_true rfl) (Nat.le_of_ble_eq_true rfl) (Nat.le_of_ble_eq_true rfl) (Nat.le_of_ble_eq_true rfl) (Nat.le_of_ble_eq_true rfl) (s_X5_next (p := teP B n ps) G hr kw ko htp2 htk2.2.1 (teP_le htk2.1) htk2.2.2.2.2.2.2 (fun v58 g58 o58 t58 => ?_))
          have t58 : tkR ca B n g58 v58 A (nxP B n ps) := t58
          have htpn := tpR_of htp2 ht o58 (by decide)
          have wn : g58 (A + 8) = f2_z (A + 8) := o58.2.1 8 (by decide) (by decide) (by decide)
          refine r_aloadR0 dX5_readSum_61 ?_
          refine r_iload1 dX5_readSum_62 ?_
          refine q_callV1 zm_RX5_191 dX5_readSum_63 hr.1 (by decide) rfl (Nat.le_of_ble_eq_true rfl) (Nat.le_of_ble_eq_true rfl) (Nat.le_of_ble_eq_true rfl) (Nat.le_of_ble_eq_true rfl) (Nat.le_of_ble_eq_true rfl) (s_X5_readTerm_5 (lm := lm) (u := u + c.length) G hr kw ko htpn t58 hx (by rw [o58.2.2 10 (by decide), ofr.2.2 10 (by decide)]; exact hol) (by rw [o58.2.2 9 (by decide)]; exact hok.1) (by omega) (fun rs vs gs os as bs => ?_))
          have as2 : ((chP B n (atP B n (if lm = 5 then 8 else 6) 5) (opT B n)) (nxP B n ps)).1 = 0 → rs.toInt = 1 ∧ tkR ca B n gs vs A ((chP B n (atP B n (if lm = 5 then 8 else 6) 5) (opT B n)) (nxP B n ps)).2.1 ∧ okR g58 gs A (u + c.length) ((chP B n (atP B n (if lm = 5 then 8 else 6) 5) (opT B n)) (nxP B n ps)).2.2 := as
          have bs2 : ((chP B n (atP B n (if lm = 5 then 8 else 6) 5) (opT B n)) (nxP B n ps)).1 ≠ 0 → rs.toInt = 0 ∧ flR gs A ((chP B n (atP B n (if lm = 5 then 8 else 6) 5) (opT B n)) (nxP B n ps)).1 ((chP B n (atP B n (if lm = 5 then 8 else 6) 5) (opT B n)) (nxP B n ps)).2.1 := bs
          have ofs : frM A [8] [2, 3, 4, 5, 9, 11, 12] f gs := frM_tr ofr (frM_tr (frM_su o58 (by decide) (by decide)) os)
          obtain ⟨cs, ls⟩ := bs2 hq
          refine t_ifne (t := 71) dX5_readSum_66 (by decide) (fun h66 => False.elim (by omega)) (fun h66 => ?_)
          refine n_iconst dX5_readSum_69 (by decide) (fun r69 e69 => ?_)
          refine m_zret dX5_readSum_70 rfl (by omega) (Nat.le_of_ble_eq_true rfl) (Nat.le_of_ble_eq_true rfl) ?_
          rw [← hv] at hQ
          exact hQ _ _ gs ofs (fun h_z => absurd h_z hq) (fun _ => ⟨e69, ls⟩)
      have hop : (opS B n) ps = 0 := (if_neg hcn).trans (if_neg hc_z)
      have hv := (lpP_end (B := B) (n := n) (k := k) (sub := (chP B n (atP B n (if lm = 5 then 8 else 6) 5) (opT B n))) (r := (0, ps, c)) hop).symm.trans hR
      refine r_iload2 dX5_readSum_12 ?_
      refine r_aloadR0 dX5_readSum_13 ?_
      refine m_getV (x := (f2_z A 1)) zf_RX5_15 rfl dX5_readSum_14 hr.1 (rfl) ?_
      refine t_icge (t := 82) dX5_readSum_17 (by decide) (fun h17 => False.elim (by omega)) (fun h17 => ?_)
      refine r_aloadR0 dX5_readSum_20 ?_
      refine m_getV (x := (f2_z A 4)) zf_RX5_25 rfl dX5_readSum_21 hr.1 (rfl) ?_
      refine n_bipush dX5_readSum_24 (by decide) (fun r24 e24_z => ?_)
      refine t_iceq (t := 38) dX5_readSum_26 (by decide) (fun h26 => False.elim (by omega)) (fun h26 => ?_)
      refine r_aloadR0 dX5_readSum_29 ?_
      refine m_getV (x := (f2_z A 4)) zf_RX5_25 rfl dX5_readSum_30 hr.1 (rfl) ?_
      refine n_bipush dX5_readSum_33 (by decide) (fun r33 e33_z => ?_)
      refine t_icne (t := 82) dX5_readSum_35 (by decide) (fun h35 => ?_) (fun h35 => False.elim (by omega))
      refine n_iconst dX5_readSum_82 (by decide) (fun r82 e82 => ?_)
      refine m_zret dX5_readSum_83 rfl (by omega) (Nat.le_of_ble_eq_true rfl) (Nat.le_of_ble_eq_true rfl) ?_
      rw [← hv] at hQ
      exact hQ _ _ f2_z ofr (fun _ => ⟨e82, htk2, hok⟩) (fun h_z => absurd rfl h_z)
  have gp := hgd p hpn
  by_cases hq : ((chP B n (atP B n (if lm = 5 then 8 else 6) 5) (opT B n)) p).1 = 0
  · obtain ⟨y1, y2, y3, y4⟩ := gp.1 hq
    have hz : ((chP B n (atP B n (if lm = 5 then 8 else 6) 5) (opT B n)) p) = (0, ((chP B n (atP B n (if lm = 5 then 8 else 6) 5) (opT B n)) p).2.1, ((chP B n (atP B n (if lm = 5 then 8 else 6) 5) (opT B n)) p).2.2) := Prod.ext hq rfl
    refine r_aloadR0 dX5_readSum_0 ?_
    refine r_iload1 dX5_readSum_1 ?_
    refine q_callV1 zm_RX5_191 dX5_readSum_2 hr.1 (by decide) rfl (Nat.le_of_ble_eq_true rfl) (Nat.le_of_ble_eq_true rfl) (Nat.le_of_ble_eq_true rfl) (Nat.le_of_ble_eq_true rfl) (Nat.le_of_ble_eq_true rfl) (s_X5_readTerm_5 G hr kw ko htp htk hx hol hu hup (fun r2 v2 g2 o2 a2 b2 => ?_))
    have a2b : ((chP B n (atP B n (if lm = 5 then 8 else 6) 5) (opT B n)) p).1 = 0 → r2.toInt = 1 ∧ tkR ca B n g2 v2 A ((chP B n (atP B n (if lm = 5 then 8 else 6) 5) (opT B n)) p).2.1 ∧ okR f g2 A u ((chP B n (atP B n (if lm = 5 then 8 else 6) 5) (opT B n)) p).2.2 := a2
    have b2b : ((chP B n (atP B n (if lm = 5 then 8 else 6) 5) (opT B n)) p).1 ≠ 0 → r2.toInt = 0 ∧ flR g2 A ((chP B n (atP B n (if lm = 5 then 8 else 6) 5) (opT B n)) p).1 ((chP B n (atP B n (if lm = 5 then 8 else 6) 5) (opT B n)) p).2.1 := b2
    obtain ⟨c2_z, t2, k2_z⟩ := a2b hq
    refine t_ifne (t := 10) dX5_readSum_5 (by decide) (fun h5 => ?_) (fun h5 => False.elim (by omega))
    refine n_iconst dX5_readSum_10 (by decide) (fun r10 e10_z => ?_)
    refine r_istore2 dX5_readSum_11 rfl ?_
    exact lp (n + 1) _ 0 n ((chP B n (atP B n (if lm = 5 then 8 else 6) 5) (opT B n)) p).2.1 ((chP B n (atP B n (if lm = 5 then 8 else 6) 5) (opT B n)) p).2.2 g2 _ _ (by omega) o2 t2 k2_z (by omega) y2 y3 (by omega) (by rw [← hz]; rfl) (Nat.lt_succ_self n)
  · have hv : chP B n (chP B n (atP B n (if lm = 5 then 8 else 6) 5) (opT B n)) (opS B n) p = ((chP B n (atP B n (if lm = 5 then 8 else 6) 5) (opT B n)) p) := lpP_bad hq
    rw [hv] at hQ
    refine r_aloadR0 dX5_readSum_0 ?_
    refine r_iload1 dX5_readSum_1 ?_
    refine q_callV1 zm_RX5_191 dX5_readSum_2 hr.1 (by decide) rfl (Nat.le_of_ble_eq_true rfl) (Nat.le_of_ble_eq_true rfl) (Nat.le_of_ble_eq_true rfl) (Nat.le_of_ble_eq_true rfl) (Nat.le_of_ble_eq_true rfl) (s_X5_readTerm_5 G hr kw ko htp htk hx hol hu hup (fun r2 v2 g2 o2 a2 b2 => ?_))
    have a2b : ((chP B n (atP B n (if lm = 5 then 8 else 6) 5) (opT B n)) p).1 = 0 → r2.toInt = 1 ∧ tkR ca B n g2 v2 A ((chP B n (atP B n (if lm = 5 then 8 else 6) 5) (opT B n)) p).2.1 ∧ okR f g2 A u ((chP B n (atP B n (if lm = 5 then 8 else 6) 5) (opT B n)) p).2.2 := a2
    have b2b : ((chP B n (atP B n (if lm = 5 then 8 else 6) 5) (opT B n)) p).1 ≠ 0 → r2.toInt = 0 ∧ flR g2 A ((chP B n (atP B n (if lm = 5 then 8 else 6) 5) (opT B n)) p).1 ((chP B n (atP B n (if lm = 5 then 8 else 6) 5) (opT B n)) p).2.1 := b2
    obtain ⟨c2_z, l2⟩ := b2b hq
    refine t_ifne (t := 10) dX5_readSum_5 (by decide) (fun h5 => False.elim (by omega)) (fun h5 => ?_)
    refine n_iconst dX5_readSum_8 (by decide) (fun r8 e8 => ?_)
    refine m_zret dX5_readSum_9 rfl (by omega) (Nat.le_of_ble_eq_true rfl) (Nat.le_of_ble_eq_true rfl) ?_
    exact hQ _ _ g2 o2 (fun h_z => absurd h_z hq) (fun _ => ⟨e8, l2⟩)
set_option maxHeartbeats 4000000 in
set_option maxRecDepth 100000 in
theorem s_X5_readAtom_6 {g : zGT} {w : zW} {f : Nat → Nat → Int32} {j : Nat → Nat → Int64} {A tq nq : Nat} {v : Option Nat} {B : Nat → Nat} {n : Nat} {ca wa wv : Nat → Nat} {kq ta sm gq gv : Nat} {p lm u : Nat} {x : Int32} {Q : Option Value → zW → Prop} {QX : String → zW → Prop} (G : zGok g) (hr : shRd w A tq nq) (kw : kWd g wa wv kq) (ko : kWo g ca wa wv ta sm gq gv) (htp : tpR B n f A tq) (htk : tkR ca B n f v A p) (hx : x.toInt = 0) (hol : (f A 10).toInt = if lm = 5 then 1 else 0) (hu : (f A 9).toInt = (u : Nat)) (hup : u ≤ p) (hQ : ∀ (b : Int32) v2 f2_z, frM A [8] [2, 3, 4, 5, 9, 11, 12] f f2_z → ((atP B n (if lm = 5 then 8 else 6) 6 p).1 = 0 → b.toInt = 1 ∧ tkR ca B n f2_z v2 A (atP B n (if lm = 5 then 8 else 6) 6 p).2.1 ∧ okR f f2_z A u (atP B n (if lm = 5 then 8 else 6) 6 p).2.2) → ((atP B n (if lm = 5 then 8 else 6) 6 p).1 ≠ 0 → b.toInt = 0 ∧ flR f2_z A (atP B n (if lm = 5 then 8 else 6) 6 p).1 (atP B n (if lm = 5 then 8 else 6) 6 p).2.1) → Q (some (.int b)) (zM (wW w A v2) f2_z j)) : zC g 34 yX5_readAtom cX5_readAtom 3 (some .boolean) [.ref A, .int x] (zM (wW w A v) f j) (0, 0) Q QX := by
  refine zC_of G (by decide +kernel) (Nat.le_of_ble_eq_true rfl) ?_
  have ht := hr.2.2.2.2.2.2
  have h4 := htk.2.2.2.1
  have hpn := htk.1
  have h900 := htp.2.1
  by_cases hp : tkP B n p = 40
  · have hv : atP B n (if lm = 5 then 8 else 6) 6 p = clP B n 41 (suP B n (atP B n (if lm = 5 then 8 else 6) 5) (nxP B n p)) := if_pos hp
    rw [hv] at hQ
    have hln := tk_lt (B := B) (n := n) (s := p) (by rw [hp]; decide)
    have hnx := nxP_gt (B := B) hln
    by_cases hq : (suP B n (atP B n (if lm = 5 then 8 else 6) 5) (nxP B n p)).1 = 0
    · by_cases h41 : tkP B n (suP B n (atP B n (if lm = 5 then 8 else 6) 5) (nxP B n p)).2.1 = 41
      · have hv2 : clP B n 41 (suP B n (atP B n (if lm = 5 then 8 else 6) 5) (nxP B n p)) = (0, nxP B n (suP B n (atP B n (if lm = 5 then 8 else 6) 5) (nxP B n p)).2.1, (suP B n (atP B n (if lm = 5 then 8 else 6) 5) (nxP B n p)).2.2) := (if_neg (not_not_intro hq)).trans (if_pos h41)
        rw [hv2] at hQ
        refine r_aloadR0 dX5_readAtom_0 ?_
        refine m_getV (x := (f A 4)) zf_RX5_25 rfl dX5_readAtom_1 hr.1 (rfl) ?_
        refine n_bipush dX5_readAtom_4 (by decide) (fun r4 e4_z => ?_)
        refine t_icne (t := 42) dX5_readAtom_6 (by decide) (fun h6 => False.elim (by omega)) (fun h6 => ?_)
        refine r_aloadR0 dX5_readAtom_9 ?_
        refine r_iload1 dX5_readAtom_10 ?_
        refine q_callV1 zm_RX5_185 dX5_readAtom_11 hr.1 (by decide) rfl (Nat.le_of_ble_eq_true rfl) (Nat.le_of_ble_eq_true rfl) (Nat.le_of_ble_eq_true rfl) (Nat.le_of_ble_eq_true rfl) (Nat.le_of_ble_eq_true rfl) (s_X5_goDeeper (d := 0) G hr kw ko htp hx htk (fun r11 v11 g11 o11 a11 b11 => ?_))
        obtain ⟨c11, t11⟩ := a11 (by decide)
        have htp11 := tpR_of htp ht o11 (by decide)
        have w11 : g11 (A + 8) = f (A + 8) := o11.2.1 8 (by decide) (by decide) (by decide)
        refine t_ifeq (t := 40) dX5_readAtom_14 (by decide) (fun h14 => False.elim (by omega)) (fun h14 => ?_)
        refine r_aloadR0 dX5_readAtom_17 ?_
        refine r_iload1 dX5_readAtom_18 ?_
        refine n_iconst dX5_readAtom_19 (by decide) (fun r19 e19_z => ?_)
        refine n_iadd dX5_readAtom_20 (by omega) (fun r20 e20 => ?_)
        refine q_callV1 zm_RX5_146 dX5_readAtom_21 hr.1 (by decide) rfl (Nat.le_of_ble_eq_true rfl) (Nat.le_of_ble_eq_true rfl) (Nat.le_of_ble_eq_true rfl) (Nat.le_of_ble_eq_true rfl) (Nat.le_of_ble_eq_true rfl) (s_X5_readSum_5 (lm := lm) (u := u) G hr kw ko htp11 t11 (by omega) (by rw [o11.2.2 10 (by decide)]; exact hol) (by rw [o11.2.2 9 (by decide)]; exact hu) (by omega) (fun r21 v21 g21 o21 a21 b21 => ?_))
        have a21b : (suP B n (atP B n (if lm = 5 then 8 else 6) 5) (nxP B n p)).1 = 0 → r21.toInt = 1 ∧ tkR ca B n g21 v21 A (suP B n (atP B n (if lm = 5 then 8 else 6) 5) (nxP B n p)).2.1 ∧ okR g11 g21 A u (suP B n (atP B n (if lm = 5 then 8 else 6) 5) (nxP B n p)).2.2 := a21
        have b21b : (suP B n (atP B n (if lm = 5 then 8 else 6) 5) (nxP B n p)).1 ≠ 0 → r21.toInt = 0 ∧ flR g21 A (suP B n (atP B n (if lm = 5 then 8 else 6) 5) (nxP B n p)).1 (suP B n (atP B n (if lm = 5 then 8 else 6) 5) (nxP B n p)).2.1 := b21
        have of21 : frM A [8] [2, 3, 4, 5, 9, 11, 12] f g21 := frM_tr (frM_su o11 (by decide) (by decide)) o21
        obtain ⟨c21, t21, k21⟩ := a21b hq
        refine t_ifeq (t := 40) dX5_readAtom_24 (by decide) (fun h24 => False.elim (by omega)) (fun h24 => ?_)
        refine r_aloadR0 dX5_readAtom_27 ?_
        refine n_bipush dX5_readAtom_28 (by decide) (fun r28 e28_z => ?_)
        refine q_callV1 zm_RX5_102 dX5_readAtom_30 hr.1 (by decide) rfl (Nat.le_of_ble_eq_true rfl) (Nat.le_of_ble_eq_true rfl) (Nat.le_of_ble_eq_true rfl) (Nat.le_of_ble_eq_true rfl) (Nat.le_of_ble_eq_true rfl) (s_X5_takeSign (s := (suP B n (atP B n (if lm = 5 then 8 else 6) 5) (nxP B n p)).2.1) (c := 41) G hr kw ko (tpR_of htp ht of21 (by decide)) e28_z t21 (fun r30 v30 g30 o30 a30 b30 => ?_))
        obtain ⟨c30, t30⟩ := a30 h41
        refine t_ifeq (t := 40) dX5_readAtom_33 (by decide) (fun h33 => False.elim (by omega)) (fun h33 => ?_)
        refine n_iconst dX5_readAtom_36 (by decide) (fun r36 e36 => ?_)
        refine r_goto (t := 41) dX5_readAtom_37 (by decide) ?_
        refine m_zret dX5_readAtom_41 rfl (by omega) (Nat.le_of_ble_eq_true rfl) (Nat.le_of_ble_eq_true rfl) ?_
        exact hQ _ _ g30 (frM_tr of21 (frM_su o30 (by decide) (by decide))) (fun _ => ⟨e36, t30, okR_cg k21 w11 (o30.2.1 8 (by decide) (by decide) (by decide)) (o30.2.2 9 (by decide))⟩) (fun h_z => absurd rfl h_z)
      · have hv2 : clP B n 41 (suP B n (atP B n (if lm = 5 then 8 else 6) 5) (nxP B n p)) = (baP B n (suP B n (atP B n (if lm = 5 then 8 else 6) 5) (nxP B n p)).2.1, (suP B n (atP B n (if lm = 5 then 8 else 6) 5) (nxP B n p)).2.1, []) := (if_neg (not_not_intro hq)).trans (if_neg h41)
        rw [hv2] at hQ
        refine r_aloadR0 dX5_readAtom_0 ?_
        refine m_getV (x := (f A 4)) zf_RX5_25 rfl dX5_readAtom_1 hr.1 (rfl) ?_
        refine n_bipush dX5_readAtom_4 (by decide) (fun r4 e4_z => ?_)
        refine t_icne (t := 42) dX5_readAtom_6 (by decide) (fun h6 => False.elim (by omega)) (fun h6 => ?_)
        refine r_aloadR0 dX5_readAtom_9 ?_
        refine r_iload1 dX5_readAtom_10 ?_
        refine q_callV1 zm_RX5_185 dX5_readAtom_11 hr.1 (by decide) rfl (Nat.le_of_ble_eq_true rfl) (Nat.le_of_ble_eq_true rfl) (Nat.le_of_ble_eq_true rfl) (Nat.le_of_ble_eq_true rfl) (Nat.le_of_ble_eq_true rfl) (s_X5_goDeeper (d := 0) G hr kw ko htp hx htk (fun r11 v11 g11 o11 a11 b11 => ?_))
        obtain ⟨c11, t11⟩ := a11 (by decide)
        have htp11 := tpR_of htp ht o11 (by decide)
        have w11 : g11 (A + 8) = f (A + 8) := o11.2.1 8 (by decide) (by decide) (by decide)
        refine t_ifeq (t := 40) dX5_readAtom_14 (by decide) (fun h14 => False.elim (by omega)) (fun h14 => ?_)
        refine r_aloadR0 dX5_readAtom_17 ?_
        refine r_iload1 dX5_readAtom_18 ?_
        refine n_iconst dX5_readAtom_19 (by decide) (fun r19 e19_z => ?_)
        refine n_iadd dX5_readAtom_20 (by omega) (fun r20 e20 => ?_)
        refine q_callV1 zm_RX5_146 dX5_readAtom_21 hr.1 (by decide) rfl (Nat.le_of_ble_eq_true rfl) (Nat.le_of_ble_eq_true rfl) (Nat.le_of_ble_eq_true rfl) (Nat.le_of_ble_eq_true rfl) (Nat.le_of_ble_eq_true rfl) (s_X5_readSum_5 (lm := lm) (u := u) G hr kw ko htp11 t11 (by omega) (by rw [o11.2.2 10 (by decide)]; exact hol) (by rw [o11.2.2 9 (by decide)]; exact hu) (by omega) (fun r21 v21 g21 o21 a21 b21 => ?_))
        have a21b : (suP B n (atP B n (if lm = 5 then 8 else 6) 5) (nxP B n p)).1 = 0 → r21.toInt = 1 ∧ tkR ca B n g21 v21 A (suP B n (atP B n (if lm = 5 then 8 else 6) 5) (nxP B n p)).2.1 ∧ okR g11 g21 A u (suP B n (atP B n (if lm = 5 then 8 else 6) 5) (nxP B n p)).2.2 := a21
        have b21b : (suP B n (atP B n (if lm = 5 then 8 else 6) 5) (nxP B n p)).1 ≠ 0 → r21.toInt = 0 ∧ flR g21 A (suP B n (atP B n (if lm = 5 then 8 else 6) 5) (nxP B n p)).1 (suP B n (atP B n (if lm = 5 then 8 else 6) 5) (nxP B n p)).2.1 := b21
        have of21 : frM A [8] [2, 3, 4, 5, 9, 11, 12] f g21 := frM_tr (frM_su o11 (by decide) (by decide)) o21
        obtain ⟨c21, t21, k21⟩ := a21b hq
        refine t_ifeq (t := 40) dX5_readAtom_24 (by decide) (fun h24 => False.elim (by omega)) (fun h24 => ?_)
        refine r_aloadR0 dX5_readAtom_27 ?_
        refine n_bipush dX5_readAtom_28 (by decide) (fun r28 e28_z => ?_)
        refine q_callV1 zm_RX5_102 dX5_readAtom_30 hr.1 (by decide) rfl (Nat.le_of_ble_eq_true rfl) (Nat.le_of_ble_eq_true rfl) (Nat.le_of_ble_eq_true rfl) (Nat.le_of_ble_eq_true rfl) (Nat.le_of_ble_eq_true rfl) (s_X5_takeSign (s := (suP B n (atP B n (if lm = 5 then 8 else 6) 5) (nxP B n p)).2.1) (c := 41) G hr kw ko (tpR_of htp ht of21 (by decide)) e28_z t21 (fun r30 v30 g30 o30 a30 b30 => ?_))
        obtain ⟨c30, l30⟩ := b30 h41
        refine t_ifeq (t := 40) dX5_readAtom_33 (by decide) (fun h33 => ?_) (fun h33 => False.elim (by omega))
        refine n_iconst dX5_readAtom_40 (by decide) (fun r40 e40 => ?_)
        refine m_zret dX5_readAtom_41 rfl (by omega) (Nat.le_of_ble_eq_true rfl) (Nat.le_of_ble_eq_true rfl) ?_
        exact hQ _ _ g30 (frM_tr of21 (frM_su o30 (by decide) (by decide))) (fun h_z => absurd h_z ba_bd.1) (fun _ => ⟨e40, l30⟩)
    · have hv2 : clP B n 41 (suP B n (atP B n (if lm = 5 then 8 else 6) 5) (nxP B n p)) = (suP B n (atP B n (if lm = 5 then 8 else 6) 5) (nxP B n p)) := if_pos hq
      rw [hv2] at hQ
      refine r_aloadR0 dX5_readAtom_0 ?_
      refine m_getV (x := (f A 4)) zf_RX5_25 rfl dX5_readAtom_1 hr.1 (rfl) ?_
      refine n_bipush dX5_readAtom_4 (by decide) (fun r4 e4_z => ?_)
      refine t_icne (t := 42) dX5_readAtom_6 (by decide) (fun h6 => False.elim (by omega)) (fun h6 => ?_)
      refine r_aloadR0 dX5_readAtom_9 ?_
      refine r_iload1 dX5_readAtom_10 ?_
      refine q_callV1 zm_RX5_185 dX5_readAtom_11 hr.1 (by decide) rfl (Nat.le_of_ble_eq_true rfl) (Nat.le_of_ble_eq_true rfl) (Nat.le_of_ble_eq_true rfl) (Nat.le_of_ble_eq_true rfl) (Nat.le_of_ble_eq_true rfl) (s_X5_goDeeper (d := 0) G hr kw ko htp hx htk (fun r11 v11 g11 o11 a11 b11 => ?_))
      obtain ⟨c11, t11⟩ := a11 (by decide)
      have htp11 := tpR_of htp ht o11 (by decide)
      have w11 : g11 (A + 8) = f (A + 8) := o11.2.1 8 (by decide) (by decide) (by decide)
      refine t_ifeq (t := 40) dX5_readAtom_14 (by decide) (fun h14 => False.elim (by omega)) (fun h14 => ?_)
      refine r_aloadR0 dX5_readAtom_17 ?_
      refine r_iload1 dX5_readAtom_18 ?_
      refine n_iconst dX5_readAtom_19 (by decide) (fun r19 e19_z => ?_)
      refine n_iadd dX5_readAtom_20 (by omega) (fun r20 e20 => ?_)
      refine q_callV1 zm_RX5_146 dX5_readAtom_21 hr.1 (by decide) rfl (Nat.le_of_ble_eq_true rfl) (Nat.le_of_ble_eq_true rfl) (Nat.le_of_ble_eq_true rfl) (Nat.le_of_ble_eq_true rfl) (Nat.le_of_ble_eq_true rfl) (s_X5_readSum_5 (lm := lm) (u := u) G hr kw ko htp11 t11 (by omega) (by rw [o11.2.2 10 (by decide)]; exact hol) (by rw [o11.2.2 9 (by decide)]; exact hu) (by omega) (fun r21 v21 g21 o21 a21 b21 => ?_))
      have a21b : (suP B n (atP B n (if lm = 5 then 8 else 6) 5) (nxP B n p)).1 = 0 → r21.toInt = 1 ∧ tkR ca B n g21 v21 A (suP B n (atP B n (if lm = 5 then 8 else 6) 5) (nxP B n p)).2.1 ∧ okR g11 g21 A u (suP B n (atP B n (if lm = 5 then 8 else 6) 5) (nxP B n p)).2.2 := a21
      have b21b : (suP B n (atP B n (if lm = 5 then 8 else 6) 5) (nxP B n p)).1 ≠ 0 → r21.toInt = 0 ∧ flR g21 A (suP B n (atP B n (if lm = 5 then 8 else 6) 5) (nxP B n p)).1 (suP B n (atP B n (if lm = 5 then 8 else 6) 5) (nxP B n p)).2.1 := b21
      have of21 : frM A [8] [2, 3, 4, 5, 9, 11, 12] f g21 := frM_tr (frM_su o11 (by decide) (by decide)) o21
      obtain ⟨c21, l21⟩ := b21b hq
      refine t_ifeq (t := 40) dX5_readAtom_24 (by decide) (fun h24 => ?_) (fun h24 => False.elim (by omega))
      refine n_iconst dX5_readAtom_40 (by decide) (fun r40 e40 => ?_)
      refine m_zret dX5_readAtom_41 rfl (by omega) (Nat.le_of_ble_eq_true rfl) (Nat.le_of_ble_eq_true rfl) ?_
      exact hQ _ _ g21 of21 (fun h_z => absurd h_z hq) (fun _ => ⟨e40, l21⟩)
  have hv0 : atP B n (if lm = 5 then 8 else 6) 6 p = a1P B n (if lm = 5 then 8 else 6) p := if_neg hp
  rw [hv0] at hQ
  by_cases h2 : tkP B n p = 2
  · have hv : a1P B n (if lm = 5 then 8 else 6) p = (0, nxP B n p, [nmP B n p]) := a1_num h2
    rw [hv] at hQ
    have hln := (tk2 h2).1
    have h5 := htk.2.2.2.2.1 h2
    refine r_aloadR0 dX5_readAtom_0 ?_
    refine m_getV (x := (f A 4)) zf_RX5_25 rfl dX5_readAtom_1 hr.1 (rfl) ?_
    refine n_bipush dX5_readAtom_4 (by decide) (fun r4 e4_z => ?_)
    refine t_icne (t := 42) dX5_readAtom_6 (by decide) (fun h6 => ?_) (fun h6 => False.elim (by omega))
    refine r_aloadR0 dX5_readAtom_42 ?_
    refine m_getV (x := (f A 4)) zf_RX5_25 rfl dX5_readAtom_43 hr.1 (rfl) ?_
    refine n_iconst dX5_readAtom_46 (by decide) (fun r46 e46 => ?_)
    refine t_icne (t := 64) dX5_readAtom_47 (by decide) (fun h47 => False.elim (by omega)) (fun h47 => ?_)
    refine r_aloadR0 dX5_readAtom_50 ?_
    refine r_aloadR0 dX5_readAtom_51 ?_
    refine m_getV (x := (f A 5)) zf_RX5_28 rfl dX5_readAtom_52 hr.1 (rfl) ?_
    refine q_callV1 zm_RX5_173 dX5_readAtom_55 hr.1 (by decide) rfl (Nat.le_of_ble_eq_true rfl) (Nat.le_of_ble_eq_true rfl) (Nat.le_of_ble_eq_true rfl) (Nat.le_of_ble_eq_true rfl) (Nat.le_of_ble_eq_true rfl) (s_X5_emit (u := u) G hr hu (by omega) (fun g55 o55 a55 b55 c55 => ?_))
    have t55 := tkR_of htk o55 (by decide) (by decide) (by decide) (by decide)
    have htp55 := tpR_of htp ht o55 (by decide)
    refine r_aloadR0 dX5_readAtom_58 ?_
    refine q_callV0 zm_RX5_73 dX5_readAtom_59 hr.1 (by decide) rfl (Nat.le_of_ble_eq_true rfl) (Nat.le_of_ble_eq_true rfl) (Nat.le_of_ble_eq_true rfl) (Nat.le_of_ble_eq_true rfl) (Nat.le_of_ble_eq_true rfl) (s_X5_next (p := teP B n p) G hr kw ko htp55 t55.2.1 (teP_le t55.1) t55.2.2.2.2.2.2 (fun v59 g59 o59 t59 => ?_))
    have t59 : tkR ca B n g59 v59 A (nxP B n p) := t59
    refine n_iconst dX5_readAtom_62 (by decide) (fun r62 e62 => ?_)
    refine m_zret dX5_readAtom_63 rfl (by omega) (Nat.le_of_ble_eq_true rfl) (Nat.le_of_ble_eq_true rfl) ?_
    exact hQ _ _ g59 (frM_tr (frM_su o55 (by decide) (by decide)) (frM_su o59 (by decide) (by decide))) (fun _ => ⟨e62, t59, okR_cg (okR_one a55 b55 c55 h5) rfl (o59.2.1 8 (by decide) (by decide) (by decide)) (o59.2.2 9 (by decide))⟩) (fun h_z => absurd rfl h_z)
  have hwl := wd_le (B := B) (n := n) (s := p)
  have f1_z := fcI_ne (wdP B n p) (by omega)
  have f2_z := fcI_eq (wdP B n p) (by omega)
  have f3_z := fcP_a (wdP B n p) (by omega)
  have f9_z := fcP_9 (wdP B n p) (by omega)
  by_cases hf : tkP B n p = 3 ∧ fcP (wdP B n p) < (if lm = 5 then 8 else 6)
  · have hv : a1P B n (if lm = 5 then 8 else 6) p = (0, nxP B n p, [1000 + fcP (wdP B n p)]) := a1_fact hf
    rw [hv] at hQ
    have hv3 := htk.2.2.2.2.2.1 hf.1
    have hf8 : fcP (wdP B n p) < 8 := Nat.lt_of_lt_of_le hf.2 (by split <;> decide)
    have hln := tk_lt (B := B) (n := n) (s := p) (by rw [hf.1]; decide)
    have g3_z := f2_z (by omega)
    have n1 : (fcI (wdP B n p)).toInt ≠ -1 := fun h_z => by have := f1_z.mp h_z; omega
    by_cases h5l : lm = 5
    · rw [if_pos h5l] at hol
      refine r_aloadR0 dX5_readAtom_0 ?_
      refine m_getV (x := (f A 4)) zf_RX5_25 rfl dX5_readAtom_1 hr.1 (rfl) ?_
      refine n_bipush dX5_readAtom_4 (by decide) (fun r4 e4_z => ?_)
      refine t_icne (t := 42) dX5_readAtom_6 (by decide) (fun h6 => ?_) (fun h6 => False.elim (by omega))
      refine r_aloadR0 dX5_readAtom_42 ?_
      refine m_getV (x := (f A 4)) zf_RX5_25 rfl dX5_readAtom_43 hr.1 (rfl) ?_
      refine n_iconst dX5_readAtom_46 (by decide) (fun r46 e46 => ?_)
      refine t_icne (t := 64) dX5_readAtom_47 (by decide) (fun h47 => ?_) (fun h47 => False.elim (by omega))
      refine r_aloadR0 dX5_readAtom_64 ?_
      refine m_getV (x := (f A 4)) zf_RX5_25 rfl dX5_readAtom_65 hr.1 (rfl) ?_
      refine n_iconst dX5_readAtom_68 (by decide) (fun r68 e68 => ?_)
      refine t_icne (t := 104) dX5_readAtom_69 (by decide) (fun h69 => False.elim (by omega)) (fun h69 => ?_)
      refine r_aloadR0 dX5_readAtom_72 ?_
      refine m_getR (q := (ca (wdP B n p))) zf_RX5_37 rfl dX5_readAtom_73 hr.1 (zu_at.trans hv3) ?_
      refine k_getf (fun U hU => (ko.2.2.2.2.1 _ (Nat.lt_succ_of_le wd_le) U hU).2.2.1) zg_RX5_197 dX5_readAtom_76 ?_
      refine n_iconst dX5_readAtom_79 (by decide) (fun r79 e79 => ?_)
      refine t_iceq (t := 104) dX5_readAtom_80 (by decide) (fun h80 => False.elim (by omega)) (fun h80 => ?_)
      refine r_aloadR0 dX5_readAtom_83 ?_
      refine m_getV (x := (f A 10)) zf_RX5_54 rfl dX5_readAtom_84 hr.1 (rfl) ?_
      refine t_ifne (t := 100) dX5_readAtom_87 (by decide) (fun h87 => ?_) (fun h87 => False.elim (by omega))
      refine n_iconst dX5_readAtom_100 (by decide) (fun r100 e100_z => ?_)
      refine r_goto (t := 105) dX5_readAtom_101 (by decide) ?_
      refine r_istore2 dX5_readAtom_105 rfl ?_
      refine r_iload2 dX5_readAtom_106 ?_
      refine t_ifne (t := 115) dX5_readAtom_107 (by decide) (fun h107 => ?_) (fun h107 => False.elim (by omega))
      refine r_aloadR0 dX5_readAtom_115 ?_
      refine n_sipush dX5_readAtom_116 (by decide) (fun r116 e116 => ?_)
      refine r_aloadR0 dX5_readAtom_119 ?_
      refine m_getR (q := (ca (wdP B n p))) zf_RX5_37 rfl dX5_readAtom_120 hr.1 (zu_at.trans hv3) ?_
      refine k_getf (fun U hU => (ko.2.2.2.2.1 _ (Nat.lt_succ_of_le wd_le) U hU).2.2.1) zg_RX5_197 dX5_readAtom_123 ?_
      refine n_iadd dX5_readAtom_126 (by omega) (fun r126 e126 => ?_)
      refine q_callV1 zm_RX5_173 dX5_readAtom_127 hr.1 (by decide) rfl (Nat.le_of_ble_eq_true rfl) (Nat.le_of_ble_eq_true rfl) (Nat.le_of_ble_eq_true rfl) (Nat.le_of_ble_eq_true rfl) (Nat.le_of_ble_eq_true rfl) (s_X5_emit (u := u) G hr hu (by omega) (fun g127 o127 a127 b127 c127 => ?_))
      have t127 := tkR_of htk o127 (by decide) (by decide) (by decide) (by decide)
      have htp127 := tpR_of htp ht o127 (by decide)
      refine r_aloadR0 dX5_readAtom_130 ?_
      refine q_callV0 zm_RX5_73 dX5_readAtom_131 hr.1 (by decide) rfl (Nat.le_of_ble_eq_true rfl) (Nat.le_of_ble_eq_true rfl) (Nat.le_of_ble_eq_true rfl) (Nat.le_of_ble_eq_true rfl) (Nat.le_of_ble_eq_true rfl) (s_X5_next (p := teP B n p) G hr kw ko htp127 t127.2.1 (teP_le t127.1) t127.2.2.2.2.2.2 (fun v131 g131 o131 t131 => ?_))
      have t131 : tkR ca B n g131 v131 A (nxP B n p) := t131
      refine n_iconst dX5_readAtom_134 (by decide) (fun r134 e134 => ?_)
      refine m_zret dX5_readAtom_135 rfl (by omega) (Nat.le_of_ble_eq_true rfl) (Nat.le_of_ble_eq_true rfl) ?_
      exact hQ _ _ g131 (frM_tr (frM_su o127 (by decide) (by decide)) (frM_su o131 (by decide) (by decide))) (fun _ => ⟨e134, t131, okR_cg (okR_one a127 b127 c127 (by omega)) rfl (o131.2.1 8 (by decide) (by decide) (by decide)) (o131.2.2 9 (by decide))⟩) (fun h_z => absurd rfl h_z)
    · rw [if_neg h5l] at hol
      have h6 : fcP (wdP B n p) < 6 := by have h7 := hf.2; rw [if_neg h5l] at h7; exact h7
      have hna := (f3_z hf8).mp h6
      refine r_aloadR0 dX5_readAtom_0 ?_
      refine m_getV (x := (f A 4)) zf_RX5_25 rfl dX5_readAtom_1 hr.1 (rfl) ?_
      refine n_bipush dX5_readAtom_4 (by decide) (fun r4 e4_z => ?_)
      refine t_icne (t := 42) dX5_readAtom_6 (by decide) (fun h6 => ?_) (fun h6 => False.elim (by omega))
      refine r_aloadR0 dX5_readAtom_42 ?_
      refine m_getV (x := (f A 4)) zf_RX5_25 rfl dX5_readAtom_43 hr.1 (rfl) ?_
      refine n_iconst dX5_readAtom_46 (by decide) (fun r46 e46 => ?_)
      refine t_icne (t := 64) dX5_readAtom_47 (by decide) (fun h47 => ?_) (fun h47 => False.elim (by omega))
      refine r_aloadR0 dX5_readAtom_64 ?_
      refine m_getV (x := (f A 4)) zf_RX5_25 rfl dX5_readAtom_65 hr.1 (rfl) ?_
      refine n_iconst dX5_readAtom_68 (by decide) (fun r68 e68 => ?_)
      refine t_icne (t := 104) dX5_readAtom_69 (by decide) (fun h69 => False.elim (by omega)) (fun h69 => ?_)
      refine r_aloadR0 dX5_readAtom_72 ?_
      refine m_getR (q := (ca (wdP B n p))) zf_RX5_37 rfl dX5_readAtom_73 hr.1 (zu_at.trans hv3) ?_
      refine k_getf (fun U hU => (ko.2.2.2.2.1 _ (Nat.lt_succ_of_le wd_le) U hU).2.2.1) zg_RX5_197 dX5_readAtom_76 ?_
      refine n_iconst dX5_readAtom_79 (by decide) (fun r79 e79 => ?_)
      refine t_iceq (t := 104) dX5_readAtom_80 (by decide) (fun h80 => False.elim (by omega)) (fun h80 => ?_)
      refine r_aloadR0 dX5_readAtom_83 ?_
      refine m_getV (x := (f A 10)) zf_RX5_54 rfl dX5_readAtom_84 hr.1 (rfl) ?_
      refine t_ifne (t := 100) dX5_readAtom_87 (by decide) (fun h87 => False.elim (by omega)) (fun h87 => ?_)
      refine r_aloadR0 dX5_readAtom_90 ?_
      refine m_getR (q := (ca (wdP B n p))) zf_RX5_37 rfl dX5_readAtom_91 hr.1 (zu_at.trans hv3) ?_
      refine k_callV0 zm_RX5_200 dX5_readAtom_94 (fun U hU => (ko.2.2.2.2.1 _ (Nat.lt_succ_of_le wd_le) U hU).1) (Nat.le_of_ble_eq_true rfl) (Nat.le_of_ble_eq_true rfl) (Nat.le_of_ble_eq_true rfl) (Nat.le_of_ble_eq_true rfl) (Nat.le_of_ble_eq_true rfl) (s_X10_isOfLikesAlone (i := wdP B n p) G kw ko (by omega) (fun r94 e94_z => ?_))
      refine t_ifne (t := 104) dX5_readAtom_97 (by decide) (fun h97 => False.elim (e94_z.elim (fun h_z => hna h_z.2) (fun h_z => by omega))) (fun h97 => ?_)
      refine n_iconst dX5_readAtom_100 (by decide) (fun r100 e100_z => ?_)
      refine r_goto (t := 105) dX5_readAtom_101 (by decide) ?_
      refine r_istore2 dX5_readAtom_105 rfl ?_
      refine r_iload2 dX5_readAtom_106 ?_
      refine t_ifne (t := 115) dX5_readAtom_107 (by decide) (fun h107 => ?_) (fun h107 => False.elim (by omega))
      refine r_aloadR0 dX5_readAtom_115 ?_
      refine n_sipush dX5_readAtom_116 (by decide) (fun r116 e116 => ?_)
      refine r_aloadR0 dX5_readAtom_119 ?_
      refine m_getR (q := (ca (wdP B n p))) zf_RX5_37 rfl dX5_readAtom_120 hr.1 (zu_at.trans hv3) ?_
      refine k_getf (fun U hU => (ko.2.2.2.2.1 _ (Nat.lt_succ_of_le wd_le) U hU).2.2.1) zg_RX5_197 dX5_readAtom_123 ?_
      refine n_iadd dX5_readAtom_126 (by omega) (fun r126 e126 => ?_)
      refine q_callV1 zm_RX5_173 dX5_readAtom_127 hr.1 (by decide) rfl (Nat.le_of_ble_eq_true rfl) (Nat.le_of_ble_eq_true rfl) (Nat.le_of_ble_eq_true rfl) (Nat.le_of_ble_eq_true rfl) (Nat.le_of_ble_eq_true rfl) (s_X5_emit (u := u) G hr hu (by omega) (fun g127 o127 a127 b127 c127 => ?_))
      have t127 := tkR_of htk o127 (by decide) (by decide) (by decide) (by decide)
      have htp127 := tpR_of htp ht o127 (by decide)
      refine r_aloadR0 dX5_readAtom_130 ?_
      refine q_callV0 zm_RX5_73 dX5_readAtom_131 hr.1 (by decide) rfl (Nat.le_of_ble_eq_true rfl) (Nat.le_of_ble_eq_true rfl) (Nat.le_of_ble_eq_true rfl) (Nat.le_of_ble_eq_true rfl) (Nat.le_of_ble_eq_true rfl) (s_X5_next (p := teP B n p) G hr kw ko htp127 t127.2.1 (teP_le t127.1) t127.2.2.2.2.2.2 (fun v131 g131 o131 t131 => ?_))
      have t131 : tkR ca B n g131 v131 A (nxP B n p) := t131
      refine n_iconst dX5_readAtom_134 (by decide) (fun r134 e134 => ?_)
      refine m_zret dX5_readAtom_135 rfl (by omega) (Nat.le_of_ble_eq_true rfl) (Nat.le_of_ble_eq_true rfl) ?_
      exact hQ _ _ g131 (frM_tr (frM_su o127 (by decide) (by decide)) (frM_su o131 (by decide) (by decide))) (fun _ => ⟨e134, t131, okR_cg (okR_one a127 b127 c127 (by omega)) rfl (o131.2.1 8 (by decide) (by decide) (by decide)) (o131.2.2 9 (by decide))⟩) (fun h_z => absurd rfl h_z)
  have hba := ba_bd (B := B) (n := n) (s := p)
  have hv : a1P B n (if lm = 5 then 8 else 6) p = (baP B n p, p, []) := a1_bad h2 hf
  rw [hv] at hQ
  by_cases h3 : tkP B n p = 3
  · have hv3 := htk.2.2.2.2.2.1 h3
    by_cases h8 : fcP (wdP B n p) = 8
    · have n1 := f1_z.mpr h8
      refine r_aloadR0 dX5_readAtom_0 ?_
      refine m_getV (x := (f A 4)) zf_RX5_25 rfl dX5_readAtom_1 hr.1 (rfl) ?_
      refine n_bipush dX5_readAtom_4 (by decide) (fun r4 e4_z => ?_)
      refine t_icne (t := 42) dX5_readAtom_6 (by decide) (fun h6 => ?_) (fun h6 => False.elim (by omega))
      refine r_aloadR0 dX5_readAtom_42 ?_
      refine m_getV (x := (f A 4)) zf_RX5_25 rfl dX5_readAtom_43 hr.1 (rfl) ?_
      refine n_iconst dX5_readAtom_46 (by decide) (fun r46 e46 => ?_)
      refine t_icne (t := 64) dX5_readAtom_47 (by decide) (fun h47 => ?_) (fun h47 => False.elim (by omega))
      refine r_aloadR0 dX5_readAtom_64 ?_
      refine m_getV (x := (f A 4)) zf_RX5_25 rfl dX5_readAtom_65 hr.1 (rfl) ?_
      refine n_iconst dX5_readAtom_68 (by decide) (fun r68 e68 => ?_)
      refine t_icne (t := 104) dX5_readAtom_69 (by decide) (fun h69 => False.elim (by omega)) (fun h69 => ?_)
      refine r_aloadR0 dX5_readAtom_72 ?_
      refine m_getR (q := (ca (wdP B n p))) zf_RX5_37 rfl dX5_readAtom_73 hr.1 (zu_at.trans hv3) ?_
      refine k_getf (fun U hU => (ko.2.2.2.2.1 _ (Nat.lt_succ_of_le wd_le) U hU).2.2.1) zg_RX5_197 dX5_readAtom_76 ?_
      refine n_iconst dX5_readAtom_79 (by decide) (fun r79 e79 => ?_)
      refine t_iceq (t := 104) dX5_readAtom_80 (by decide) (fun h80 => ?_) (fun h80 => False.elim (by omega))
      refine n_iconst dX5_readAtom_104 (by decide) (fun r104 e104_z => ?_)
      refine r_istore2 dX5_readAtom_105 rfl ?_
      refine r_iload2 dX5_readAtom_106 ?_
      refine t_ifne (t := 115) dX5_readAtom_107 (by decide) (fun h107 => False.elim (by omega)) (fun h107 => ?_)
      refine r_aloadR0 dX5_readAtom_110 ?_
      refine q_callV0 zm_RX5_80 dX5_readAtom_111 hr.1 (by decide) rfl (Nat.le_of_ble_eq_true rfl) (Nat.le_of_ble_eq_true rfl) (Nat.le_of_ble_eq_true rfl) (Nat.le_of_ble_eq_true rfl) (Nat.le_of_ble_eq_true rfl) (s_X5_refuseToken G hr htk (fun r111 g111 e111_z o111 l111 => ?_))
      refine m_zret dX5_readAtom_114 rfl (by omega) (Nat.le_of_ble_eq_true rfl) (Nat.le_of_ble_eq_true rfl) ?_
      exact hQ _ _ g111 (frM_su o111 (by decide) (by decide)) (fun h_z => absurd h_z hba.1) (fun _ => ⟨e111_z, l111⟩)
    · have n1 : (fcI (wdP B n p)).toInt ≠ -1 := fun h_z => h8 (f1_z.mp h_z)
      have h5l : lm ≠ 5 := fun h_z => hf ⟨h3, by rw [if_pos h_z]; omega⟩
      rw [if_neg h5l] at hol
      have hna : wdP B n p = 2 ∨ wdP B n p = 15 := Decidable.byContradiction (fun h_z => hf ⟨h3, by rw [if_neg h5l]; exact (f3_z (by omega)).mpr h_z⟩)
      refine r_aloadR0 dX5_readAtom_0 ?_
      refine m_getV (x := (f A 4)) zf_RX5_25 rfl dX5_readAtom_1 hr.1 (rfl) ?_
      refine n_bipush dX5_readAtom_4 (by decide) (fun r4 e4_z => ?_)
      refine t_icne (t := 42) dX5_readAtom_6 (by decide) (fun h6 => ?_) (fun h6 => False.elim (by omega))
      refine r_aloadR0 dX5_readAtom_42 ?_
      refine m_getV (x := (f A 4)) zf_RX5_25 rfl dX5_readAtom_43 hr.1 (rfl) ?_
      refine n_iconst dX5_readAtom_46 (by decide) (fun r46 e46 => ?_)
      refine t_icne (t := 64) dX5_readAtom_47 (by decide) (fun h47 => ?_) (fun h47 => False.elim (by omega))
      refine r_aloadR0 dX5_readAtom_64 ?_
      refine m_getV (x := (f A 4)) zf_RX5_25 rfl dX5_readAtom_65 hr.1 (rfl) ?_
      refine n_iconst dX5_readAtom_68 (by decide) (fun r68 e68 => ?_)
      refine t_icne (t := 104) dX5_readAtom_69 (by decide) (fun h69 => False.elim (by omega)) (fun h69 => ?_)
      refine r_aloadR0 dX5_readAtom_72 ?_
      refine m_getR (q := (ca (wdP B n p))) zf_RX5_37 rfl dX5_readAtom_73 hr.1 (zu_at.trans hv3) ?_
      refine k_getf (fun U hU => (ko.2.2.2.2.1 _ (Nat.lt_succ_of_le wd_le) U hU).2.2.1) zg_RX5_197 dX5_readAtom_76 ?_
      refine n_iconst dX5_readAtom_79 (by decide) (fun r79 e79 => ?_)
      refine t_iceq (t := 104) dX5_readAtom_80 (by decide) (fun h80 => False.elim (by omega)) (fun h80 => ?_)
      refine r_aloadR0 dX5_readAtom_83 ?_
      refine m_getV (x := (f A 10)) zf_RX5_54 rfl dX5_readAtom_84 hr.1 (rfl) ?_
      refine t_ifne (t := 100) dX5_readAtom_87 (by decide) (fun h87 => False.elim (by omega)) (fun h87 => ?_)
      refine r_aloadR0 dX5_readAtom_90 ?_
      refine m_getR (q := (ca (wdP B n p))) zf_RX5_37 rfl dX5_readAtom_91 hr.1 (zu_at.trans hv3) ?_
      refine k_callV0 zm_RX5_200 dX5_readAtom_94 (fun U hU => (ko.2.2.2.2.1 _ (Nat.lt_succ_of_le wd_le) U hU).1) (Nat.le_of_ble_eq_true rfl) (Nat.le_of_ble_eq_true rfl) (Nat.le_of_ble_eq_true rfl) (Nat.le_of_ble_eq_true rfl) (Nat.le_of_ble_eq_true rfl) (s_X10_isOfLikesAlone (i := wdP B n p) G kw ko (by omega) (fun r94 e94_z => ?_))
      refine t_ifne (t := 104) dX5_readAtom_97 (by decide) (fun h97 => ?_) (fun h97 => False.elim (e94_z.elim (fun h_z => by omega) (fun h_z => h_z.2 hna)))
      refine n_iconst dX5_readAtom_104 (by decide) (fun r104 e104_z => ?_)
      refine r_istore2 dX5_readAtom_105 rfl ?_
      refine r_iload2 dX5_readAtom_106 ?_
      refine t_ifne (t := 115) dX5_readAtom_107 (by decide) (fun h107 => False.elim (by omega)) (fun h107 => ?_)
      refine r_aloadR0 dX5_readAtom_110 ?_
      refine q_callV0 zm_RX5_80 dX5_readAtom_111 hr.1 (by decide) rfl (Nat.le_of_ble_eq_true rfl) (Nat.le_of_ble_eq_true rfl) (Nat.le_of_ble_eq_true rfl) (Nat.le_of_ble_eq_true rfl) (Nat.le_of_ble_eq_true rfl) (s_X5_refuseToken G hr htk (fun r111 g111 e111_z o111 l111 => ?_))
      refine m_zret dX5_readAtom_114 rfl (by omega) (Nat.le_of_ble_eq_true rfl) (Nat.le_of_ble_eq_true rfl) ?_
      exact hQ _ _ g111 (frM_su o111 (by decide) (by decide)) (fun h_z => absurd h_z hba.1) (fun _ => ⟨e111_z, l111⟩)
  refine r_aloadR0 dX5_readAtom_0 ?_
  refine m_getV (x := (f A 4)) zf_RX5_25 rfl dX5_readAtom_1 hr.1 (rfl) ?_
  refine n_bipush dX5_readAtom_4 (by decide) (fun r4 e4_z => ?_)
  refine t_icne (t := 42) dX5_readAtom_6 (by decide) (fun h6 => ?_) (fun h6 => False.elim (by omega))
  refine r_aloadR0 dX5_readAtom_42 ?_
  refine m_getV (x := (f A 4)) zf_RX5_25 rfl dX5_readAtom_43 hr.1 (rfl) ?_
  refine n_iconst dX5_readAtom_46 (by decide) (fun r46 e46 => ?_)
  refine t_icne (t := 64) dX5_readAtom_47 (by decide) (fun h47 => ?_) (fun h47 => False.elim (by omega))
  refine r_aloadR0 dX5_readAtom_64 ?_
  refine m_getV (x := (f A 4)) zf_RX5_25 rfl dX5_readAtom_65 hr.1 (rfl) ?_
  refine n_iconst dX5_readAtom_68 (by decide) (fun r68 e68 => ?_)
  refine t_icne (t := 104) dX5_readAtom_69 (by decide) (fun h69 => ?_) (fun h69 => False.elim (by omega))
  refine n_iconst dX5_readAtom_104 (by decide) (fun r104 e104_z => ?_)
  refine r_istore2 dX5_readAtom_105 rfl ?_
  refine r_iload2 dX5_readAtom_106 ?_
  refine t_ifne (t := 115) dX5_readAtom_107 (by decide) (fun h107 => False.elim (by omega)) (fun h107 => ?_)
  refine r_aloadR0 dX5_readAtom_110 ?_
  refine q_callV0 zm_RX5_80 dX5_readAtom_111 hr.1 (by decide) rfl (Nat.le_of_ble_eq_true rfl) (Nat.le_of_ble_eq_true rfl) (Nat.le_of_ble_eq_true rfl) (Nat.le_of_ble_eq_true rfl) (Nat.le_of_ble_eq_true rfl) (s_X5_refuseToken G hr htk (fun r111 g111 e111_z o111 l111 => ?_))
  refine m_zret dX5_readAtom_114 rfl (by omega) (Nat.le_of_ble_eq_true rfl) (Nat.le_of_ble_eq_true rfl) ?_
  exact hQ _ _ g111 (frM_su o111 (by decide) (by decide)) (fun h_z => absurd h_z hba.1) (fun _ => ⟨e111_z, l111⟩)
set_option maxHeartbeats 4000000 in
set_option maxRecDepth 100000 in
theorem s_X5_readTerm_6 {g : zGT} {w : zW} {f : Nat → Nat → Int32} {j : Nat → Nat → Int64} {A tq nq : Nat} {v : Option Nat} {B : Nat → Nat} {n : Nat} {ca wa wv : Nat → Nat} {kq ta sm gq gv : Nat} {p lm u : Nat} {x : Int32} {Q : Option Value → zW → Prop} {QX : String → zW → Prop} (G : zGok g) (hr : shRd w A tq nq) (kw : kWd g wa wv kq) (ko : kWo g ca wa wv ta sm gq gv) (htp : tpR B n f A tq) (htk : tkR ca B n f v A p) (hx : x.toInt = 0) (hol : (f A 10).toInt = if lm = 5 then 1 else 0) (hu : (f A 9).toInt = (u : Nat)) (hup : u ≤ p) (hQ : ∀ (b : Int32) v2 f2_z, frM A [8] [2, 3, 4, 5, 9, 11, 12] f f2_z → ((chP B n (atP B n (if lm = 5 then 8 else 6) 6) (opT B n) p).1 = 0 → b.toInt = 1 ∧ tkR ca B n f2_z v2 A (chP B n (atP B n (if lm = 5 then 8 else 6) 6) (opT B n) p).2.1 ∧ okR f f2_z A u (chP B n (atP B n (if lm = 5 then 8 else 6) 6) (opT B n) p).2.2) → ((chP B n (atP B n (if lm = 5 then 8 else 6) 6) (opT B n) p).1 ≠ 0 → b.toInt = 0 ∧ flR f2_z A (chP B n (atP B n (if lm = 5 then 8 else 6) 6) (opT B n) p).1 (chP B n (atP B n (if lm = 5 then 8 else 6) 6) (opT B n) p).2.1) → Q (some (.int b)) (zM (wW w A v2) f2_z j)) : zC g 35 yX5_readTerm cX5_readTerm 3 (some .boolean) [.ref A, .int x] (zM (wW w A v) f j) (0, 0) Q QX := by
  refine zC_of G (by decide +kernel) (Nat.le_of_ble_eq_true rfl) ?_
  have ht := hr.2.2.2.2.2.2
  have h4 := htk.2.2.2.1
  have hpn := htk.1
  have h900 := htp.2.1
  have hgd : ∀ s, s ≤ n → gdP n false (if lm = 5 then 8 else 6) (1 + 2 * 6) s ((atP B n (if lm = 5 then 8 else 6) 6) s) := gd_at (by split <;> decide) 6
  have lp : ∀ (mz : Nat) (uu : Int32) (i : Nat) (k : Nat) (ps : Nat) (c : List Nat) (f2_z : Nat → Nat → Int32) (vv : Option Nat), uu.toInt = (i : Nat) → frM A [8] [2, 3, 4, 5, 9, 11, 12] f f2_z → tkR ca B n f2_z vv A ps → okR f f2_z A u c → p + i < ps → ps ≤ n → c.length + p ≤ ps → n ≤ k + ps → lpP B n (atP B n (if lm = 5 then 8 else 6) 6) (opT B n) k (0, ps, c) = chP B n (atP B n (if lm = 5 then 8 else 6) 6) (opT B n) p → k < mz → zR (zV g 35 yX5_readTerm 3 (some .boolean) (0, 0) Q QX) cX5_readTerm yX5_readTerm.cls 12 [some (.ref A), some (.int x), some (.int uu)] [] (zM (wW w A vv) f2_z j) (0, 0) := by
    intro mz
    induction mz with
    | zero =>
      intro uu i k ps c f2_z vv hui ofr htk2 hok hpi hps hcl hnk hR hmz
      exact absurd hmz (Nat.not_lt_zero _)
    | succ mz ih =>
      intro uu i k ps c f2_z vv hui ofr htk2 hok hpi hps hcl hnk hR hmz
      have htp2 := tpR_of htp ht ofr (by decide)
      have h1 := htp2.1
      have htk4 := htk2.2.2.2.1
      have hi9 : i < n := by omega
      by_cases hc_z : tkP B n ps = 42
      · have hop : (opT B n) ps = 2005 := if_pos hc_z
        have hop0 : (opT B n) ps ≠ 0 := by rw [hop]; decide
        have hln := tk_lt (B := B) (n := n) (s := ps) (by rw [hc_z]; decide)
        obtain ⟨k2_z, rfl⟩ : ∃ k2_z, k = k2_z + 1 := ⟨k - 1, by omega⟩
        have hnx := nxP_gt (B := B) hln
        have gq := hgd _ hnx.2
        by_cases hq : ((atP B n (if lm = 5 then 8 else 6) 6) (nxP B n ps)).1 = 0
        · obtain ⟨y1, y2, y3, y4⟩ := gq.1 hq
          refine r_iload2 dX5_readTerm_12 ?_
          refine r_aloadR0 dX5_readTerm_13 ?_
          refine m_getV (x := (f2_z A 1)) zf_RX5_15 rfl dX5_readTerm_14 hr.1 (rfl) ?_
          refine t_icge (t := 56) dX5_readTerm_17 (by decide) (fun h17 => False.elim (by omega)) (fun h17 => ?_)
          refine r_aloadR0 dX5_readTerm_20 ?_
          refine m_getV (x := (f2_z A 4)) zf_RX5_25 rfl dX5_readTerm_21 hr.1 (rfl) ?_
          refine n_bipush dX5_readTerm_24 (by decide) (fun r24 e24_z => ?_)
          refine t_icne (t := 56) dX5_readTerm_26 (by decide) (fun h26 => False.elim (by omega)) (fun h26 => ?_)
          refine r_aloadR0 dX5_readTerm_29 ?_
          refine q_callV0 zm_RX5_73 dX5_readTerm_30 hr.1 (by decide) rfl (Nat.le_of_ble_eq_true rfl) (Nat.le_of_ble_eq_true rfl) (Nat.le_of_ble_eq_true rfl) (Nat.le_of_ble_eq_true rfl) (Nat.le_of_ble_eq_true rfl) (s_X5_next (p := teP B n ps) G hr kw ko htp2 htk2.2.1 (teP_le htk2.1) htk2.2.2.2.2.2.2 (fun v30 g30 o30 t30 => ?_))
          have t30 : tkR ca B n g30 v30 A (nxP B n ps) := t30
          have htpn := tpR_of htp2 ht o30 (by decide)
          have wn : g30 (A + 8) = f2_z (A + 8) := o30.2.1 8 (by decide) (by decide) (by decide)
          refine r_aloadR0 dX5_readTerm_33 ?_
          refine r_iload1 dX5_readTerm_34 ?_
          refine q_callV1 zm_RX5_194 dX5_readTerm_35 hr.1 (by decide) rfl (Nat.le_of_ble_eq_true rfl) (Nat.le_of_ble_eq_true rfl) (Nat.le_of_ble_eq_true rfl) (Nat.le_of_ble_eq_true rfl) (Nat.le_of_ble_eq_true rfl) (s_X5_readAtom_6 (lm := lm) (u := u + c.length) G hr kw ko htpn t30 hx (by rw [o30.2.2 10 (by decide), ofr.2.2 10 (by decide)]; exact hol) (by rw [o30.2.2 9 (by decide)]; exact hok.1) (by omega) (fun rs vs gs os as bs => ?_))
          have as2 : ((atP B n (if lm = 5 then 8 else 6) 6) (nxP B n ps)).1 = 0 → rs.toInt = 1 ∧ tkR ca B n gs vs A ((atP B n (if lm = 5 then 8 else 6) 6) (nxP B n ps)).2.1 ∧ okR g30 gs A (u + c.length) ((atP B n (if lm = 5 then 8 else 6) 6) (nxP B n ps)).2.2 := as
          have bs2 : ((atP B n (if lm = 5 then 8 else 6) 6) (nxP B n ps)).1 ≠ 0 → rs.toInt = 0 ∧ flR gs A ((atP B n (if lm = 5 then 8 else 6) 6) (nxP B n ps)).1 ((atP B n (if lm = 5 then 8 else 6) 6) (nxP B n ps)).2.1 := bs
          have ofs : frM A [8] [2, 3, 4, 5, 9, 11, 12] f gs := frM_tr ofr (frM_tr (frM_su o30 (by decide) (by decide)) os)
          obtain ⟨cs, ts, ks⟩ := as2 hq
          refine t_ifne (t := 43) dX5_readTerm_38 (by decide) (fun h38 => ?_) (fun h38 => False.elim (by omega))
          refine r_aloadR0 dX5_readTerm_43 ?_
          refine n_sipush dX5_readTerm_44 (by decide) (fun r44 e44 => ?_)
          refine q_callV1 zm_RX5_173 dX5_readTerm_47 hr.1 (by decide) rfl (Nat.le_of_ble_eq_true rfl) (Nat.le_of_ble_eq_true rfl) (Nat.le_of_ble_eq_true rfl) (Nat.le_of_ble_eq_true rfl) (Nat.le_of_ble_eq_true rfl) (s_X5_emit (u := u + c.length + ((atP B n (if lm = 5 then 8 else 6) 6) (nxP B n ps)).2.2.length) G hr ks.1 (by omega) (fun g47 o47 a47 b47 c47 => ?_))
          refine n_iinc2 dX5_readTerm_50 (by decide) rfl (by omega) (fun r50 e50 => ?_)
          refine r_goto (t := 12) dX5_readTerm_53 (by decide) ?_
          refine ih _ (i + 1) k2_z ((atP B n (if lm = 5 then 8 else 6) 6) (nxP B n ps)).2.1 (c ++ ((atP B n (if lm = 5 then 8 else 6) 6) (nxP B n ps)).2.2 ++ [(opT B n) ps]) g47 _ (by omega) (frM_tr ofs (frM_su o47 (by decide) (by decide))) (tkR_of ts o47 (by decide) (by decide) (by decide) (by decide)) (okR_ap (okR_ap hok (okR_cg ks wn rfl rfl)) ?_) (by omega) y2 ?_ (by omega) ?_ (by omega)
          · rw [List.length_append, ← Nat.add_assoc, hop]
            exact okR_one a47 b47 c47 (by omega)
          · rw [List.length_append, List.length_append, List.length_singleton]
            omega
          · exact (lpP_on (r := (0, ps, c)) rfl hop0 hq).symm.trans hR
        · have hv : ((atP B n (if lm = 5 then 8 else 6) 6) (nxP B n ps)) = chP B n (atP B n (if lm = 5 then 8 else 6) 6) (opT B n) p := (lpP_sub (k := k2_z) (r := (0, ps, c)) rfl hop0 hq).symm.trans hR
          refine r_iload2 dX5_readTerm_12 ?_
          refine r_aloadR0 dX5_readTerm_13 ?_
          refine m_getV (x := (f2_z A 1)) zf_RX5_15 rfl dX5_readTerm_14 hr.1 (rfl) ?_
          refine t_icge (t := 56) dX5_readTerm_17 (by decide) (fun h17 => False.elim (by omega)) (fun h17 => ?_)
          refine r_aloadR0 dX5_readTerm_20 ?_
          refine m_getV (x := (f2_z A 4)) zf_RX5_25 rfl dX5_readTerm_21 hr.1 (rfl) ?_
          refine n_bipush dX5_readTerm_24 (by decide) (fun r24 e24_z => ?_)
          refine t_icne (t := 56) dX5_readTerm_26 (by decide) (fun h26 => False.elim (by omega)) (fun h26 => ?_)
          refine r_aloadR0 dX5_readTerm_29 ?_
          refine q_callV0 zm_RX5_73 dX5_readTerm_30 hr.1 (by decide) rfl (Nat.le_of_ble_eq_true rfl) (Nat.le_of_ble_eq_true rfl) (Nat.le_of_ble_eq_true rfl) (Nat.le_of_ble_eq_true rfl) (Nat.le_of_ble_eq_true rfl) (s_X5_next (p := teP B n ps) G hr kw ko htp2 htk2.2.1 (teP_le htk2.1) htk2.2.2.2.2.2.2 (fun v30 g30 o30 t30 => ?_))
          have t30 : tkR ca B n g30 v30 A (nxP B n ps) := t30
          have htpn := tpR_of htp2 ht o30 (by decide)
          have wn : g30 (A + 8) = f2_z (A + 8) := o30.2.1 8 (by decide) (by decide) (by decide)
          refine r_aloadR0 dX5_readTerm_33 ?_
          refine r_iload1 dX5_readTerm_34 ?_
          refine q_callV1 zm_RX5_194 dX5_readTerm_35 hr.1 (by decide) rfl (Nat.le_of_ble_eq_true rfl) (Nat.le_of_ble_eq_true rfl) (Nat.le_of_ble_eq_true rfl) (Nat.le_of_ble_eq_true rfl) (Nat.le_of_ble_eq_true rfl) (s_X5_readAtom_6 (lm := lm) (u := u + c.length) G hr kw ko htpn t30 hx (by rw [o30.2.2 10 (by decide), ofr.2.2 10 (by decide)]; exact hol) (by rw [o30.2.2 9 (by decide)]; exact hok.1) (by omega) (fun rs vs gs os as bs => ?_))
          have as2 : ((atP B n (if lm = 5 then 8 else 6) 6) (nxP B n ps)).1 = 0 → rs.toInt = 1 ∧ tkR ca B n gs vs A ((atP B n (if lm = 5 then 8 else 6) 6) (nxP B n ps)).2.1 ∧ okR g30 gs A (u + c.length) ((atP B n (if lm = 5 then 8 else 6) 6) (nxP B n ps)).2.2 := as
          have bs2 : ((atP B n (if lm = 5 then 8 else 6) 6) (nxP B n ps)).1 ≠ 0 → rs.toInt = 0 ∧ flR gs A ((atP B n (if lm = 5 then 8 else 6) 6) (nxP B n ps)).1 ((atP B n (if lm = 5 then 8 else 6) 6) (nxP B n ps)).2.1 := bs
          have ofs : frM A [8] [2, 3, 4, 5, 9, 11, 12] f gs := frM_tr ofr (frM_tr (frM_su o30 (by decide) (by decide)) os)
          obtain ⟨cs, ls⟩ := bs2 hq
          refine t_ifne (t := 43) dX5_readTerm_38 (by decide) (fun h38 => False.elim (by omega)) (fun h38 => ?_)
          refine n_iconst dX5_readTerm_41 (by decide) (fun r41 e41_z => ?_)
          refine m_zret dX5_readTerm_42 rfl (by omega) (Nat.le_of_ble_eq_true rfl) (Nat.le_of_ble_eq_true rfl) ?_
          rw [← hv] at hQ
          exact hQ _ _ gs ofs (fun h_z => absurd h_z hq) (fun _ => ⟨e41_z, ls⟩)
      have hop : (opT B n) ps = 0 := if_neg hc_z
      have hv := (lpP_end (B := B) (n := n) (k := k) (sub := (atP B n (if lm = 5 then 8 else 6) 6)) (r := (0, ps, c)) hop).symm.trans hR
      refine r_iload2 dX5_readTerm_12 ?_
      refine r_aloadR0 dX5_readTerm_13 ?_
      refine m_getV (x := (f2_z A 1)) zf_RX5_15 rfl dX5_readTerm_14 hr.1 (rfl) ?_
      refine t_icge (t := 56) dX5_readTerm_17 (by decide) (fun h17 => False.elim (by omega)) (fun h17 => ?_)
      refine r_aloadR0 dX5_readTerm_20 ?_
      refine m_getV (x := (f2_z A 4)) zf_RX5_25 rfl dX5_readTerm_21 hr.1 (rfl) ?_
      refine n_bipush dX5_readTerm_24 (by decide) (fun r24 e24_z => ?_)
      refine t_icne (t := 56) dX5_readTerm_26 (by decide) (fun h26 => ?_) (fun h26 => False.elim (by omega))
      refine n_iconst dX5_readTerm_56 (by decide) (fun r56 e56 => ?_)
      refine m_zret dX5_readTerm_57 rfl (by omega) (Nat.le_of_ble_eq_true rfl) (Nat.le_of_ble_eq_true rfl) ?_
      rw [← hv] at hQ
      exact hQ _ _ f2_z ofr (fun _ => ⟨e56, htk2, hok⟩) (fun h_z => absurd rfl h_z)
  have gp := hgd p hpn
  by_cases hq : ((atP B n (if lm = 5 then 8 else 6) 6) p).1 = 0
  · obtain ⟨y1, y2, y3, y4⟩ := gp.1 hq
    have hz : ((atP B n (if lm = 5 then 8 else 6) 6) p) = (0, ((atP B n (if lm = 5 then 8 else 6) 6) p).2.1, ((atP B n (if lm = 5 then 8 else 6) 6) p).2.2) := Prod.ext hq rfl
    refine r_aloadR0 dX5_readTerm_0 ?_
    refine r_iload1 dX5_readTerm_1 ?_
    refine q_callV1 zm_RX5_194 dX5_readTerm_2 hr.1 (by decide) rfl (Nat.le_of_ble_eq_true rfl) (Nat.le_of_ble_eq_true rfl) (Nat.le_of_ble_eq_true rfl) (Nat.le_of_ble_eq_true rfl) (Nat.le_of_ble_eq_true rfl) (s_X5_readAtom_6 G hr kw ko htp htk hx hol hu hup (fun r2 v2 g2 o2 a2 b2 => ?_))
    have a2b : ((atP B n (if lm = 5 then 8 else 6) 6) p).1 = 0 → r2.toInt = 1 ∧ tkR ca B n g2 v2 A ((atP B n (if lm = 5 then 8 else 6) 6) p).2.1 ∧ okR f g2 A u ((atP B n (if lm = 5 then 8 else 6) 6) p).2.2 := a2
    have b2b : ((atP B n (if lm = 5 then 8 else 6) 6) p).1 ≠ 0 → r2.toInt = 0 ∧ flR g2 A ((atP B n (if lm = 5 then 8 else 6) 6) p).1 ((atP B n (if lm = 5 then 8 else 6) 6) p).2.1 := b2
    obtain ⟨c2_z, t2, k2_z⟩ := a2b hq
    refine t_ifne (t := 10) dX5_readTerm_5 (by decide) (fun h5 => ?_) (fun h5 => False.elim (by omega))
    refine n_iconst dX5_readTerm_10 (by decide) (fun r10 e10_z => ?_)
    refine r_istore2 dX5_readTerm_11 rfl ?_
    exact lp (n + 1) _ 0 n ((atP B n (if lm = 5 then 8 else 6) 6) p).2.1 ((atP B n (if lm = 5 then 8 else 6) 6) p).2.2 g2 _ (by omega) o2 t2 k2_z (by omega) y2 y3 (by omega) (by rw [← hz]; rfl) (Nat.lt_succ_self n)
  · have hv : chP B n (atP B n (if lm = 5 then 8 else 6) 6) (opT B n) p = ((atP B n (if lm = 5 then 8 else 6) 6) p) := lpP_bad hq
    rw [hv] at hQ
    refine r_aloadR0 dX5_readTerm_0 ?_
    refine r_iload1 dX5_readTerm_1 ?_
    refine q_callV1 zm_RX5_194 dX5_readTerm_2 hr.1 (by decide) rfl (Nat.le_of_ble_eq_true rfl) (Nat.le_of_ble_eq_true rfl) (Nat.le_of_ble_eq_true rfl) (Nat.le_of_ble_eq_true rfl) (Nat.le_of_ble_eq_true rfl) (s_X5_readAtom_6 G hr kw ko htp htk hx hol hu hup (fun r2 v2 g2 o2 a2 b2 => ?_))
    have a2b : ((atP B n (if lm = 5 then 8 else 6) 6) p).1 = 0 → r2.toInt = 1 ∧ tkR ca B n g2 v2 A ((atP B n (if lm = 5 then 8 else 6) 6) p).2.1 ∧ okR f g2 A u ((atP B n (if lm = 5 then 8 else 6) 6) p).2.2 := a2
    have b2b : ((atP B n (if lm = 5 then 8 else 6) 6) p).1 ≠ 0 → r2.toInt = 0 ∧ flR g2 A ((atP B n (if lm = 5 then 8 else 6) 6) p).1 ((atP B n (if lm = 5 then 8 else 6) 6) p).2.1 := b2
    obtain ⟨c2_z, l2⟩ := b2b hq
    refine t_ifne (t := 10) dX5_readTerm_5 (by decide) (fun h5 => False.elim (by omega)) (fun h5 => ?_)
    refine n_iconst dX5_readTerm_8 (by decide) (fun r8 e8 => ?_)
    refine m_zret dX5_readTerm_9 rfl (by omega) (Nat.le_of_ble_eq_true rfl) (Nat.le_of_ble_eq_true rfl) ?_
    exact hQ _ _ g2 o2 (fun h_z => absurd h_z hq) (fun _ => ⟨e8, l2⟩)
set_option maxHeartbeats 4000000 in
set_option maxRecDepth 100000 in
theorem s_X5_readSum_6 {g : zGT} {w : zW} {f : Nat → Nat → Int32} {j : Nat → Nat → Int64} {A tq nq : Nat} {v : Option Nat} {B : Nat → Nat} {n : Nat} {ca wa wv : Nat → Nat} {kq ta sm gq gv : Nat} {p lm u : Nat} {x : Int32} {Q : Option Value → zW → Prop} {QX : String → zW → Prop} (G : zGok g) (hr : shRd w A tq nq) (kw : kWd g wa wv kq) (ko : kWo g ca wa wv ta sm gq gv) (htp : tpR B n f A tq) (htk : tkR ca B n f v A p) (hx : x.toInt = 0) (hol : (f A 10).toInt = if lm = 5 then 1 else 0) (hu : (f A 9).toInt = (u : Nat)) (hup : u ≤ p) (hQ : ∀ (b : Int32) v2 f2_z, frM A [8] [2, 3, 4, 5, 9, 11, 12] f f2_z → ((chP B n (chP B n (atP B n (if lm = 5 then 8 else 6) 6) (opT B n)) (opS B n) p).1 = 0 → b.toInt = 1 ∧ tkR ca B n f2_z v2 A (chP B n (chP B n (atP B n (if lm = 5 then 8 else 6) 6) (opT B n)) (opS B n) p).2.1 ∧ okR f f2_z A u (chP B n (chP B n (atP B n (if lm = 5 then 8 else 6) 6) (opT B n)) (opS B n) p).2.2) → ((chP B n (chP B n (atP B n (if lm = 5 then 8 else 6) 6) (opT B n)) (opS B n) p).1 ≠ 0 → b.toInt = 0 ∧ flR f2_z A (chP B n (chP B n (atP B n (if lm = 5 then 8 else 6) 6) (opT B n)) (opS B n) p).1 (chP B n (chP B n (atP B n (if lm = 5 then 8 else 6) 6) (opT B n)) (opS B n) p).2.1) → Q (some (.int b)) (zM (wW w A v2) f2_z j)) : zC g 36 yX5_readSum cX5_readSum 4 (some .boolean) [.ref A, .int x] (zM (wW w A v) f j) (0, 0) Q QX := by
  refine zC_of G (by decide +kernel) (Nat.le_of_ble_eq_true rfl) ?_
  have ht := hr.2.2.2.2.2.2
  have h4 := htk.2.2.2.1
  have hpn := htk.1
  have h900 := htp.2.1
  have hgd : ∀ s, s ≤ n → gdP n false (if lm = 5 then 8 else 6) (1 + 2 * 6 + 1) s ((chP B n (atP B n (if lm = 5 then 8 else 6) 6) (opT B n)) s) := fun s hs9 => gd_ch (gd_at (by split <;> decide) 6) hop_T hs9
  have lp : ∀ (mz : Nat) (uu : Int32) (i : Nat) (k : Nat) (ps : Nat) (c : List Nat) (f2_z : Nat → Nat → Int32) (vv : Option Nat) (v3_ : Option Value), uu.toInt = (i : Nat) → frM A [8] [2, 3, 4, 5, 9, 11, 12] f f2_z → tkR ca B n f2_z vv A ps → okR f f2_z A u c → p + i < ps → ps ≤ n → c.length + p ≤ ps → n ≤ k + ps → lpP B n (chP B n (atP B n (if lm = 5 then 8 else 6) 6) (opT B n)) (opS B n) k (0, ps, c) = chP B n (chP B n (atP B n (if lm = 5 then 8 else 6) 6) (opT B n)) (opS B n) p → k < mz → zR (zV g 36 yX5_readSum 4 (some .boolean) (0, 0) Q QX) cX5_readSum yX5_readSum.cls 12 [some (.ref A), some (.int x), some (.int uu), v3_] [] (zM (wW w A vv) f2_z j) (0, 0) := by
    intro mz
    induction mz with
    | zero =>
      intro uu i k ps c f2_z vv v3_ hui ofr htk2 hok hpi hps hcl hnk hR hmz
      exact absurd hmz (Nat.not_lt_zero _)
    | succ mz ih =>
      intro uu i k ps c f2_z vv v3_ hui ofr htk2 hok hpi hps hcl hnk hR hmz
      have htp2 := tpR_of htp ht ofr (by decide)
      have h1 := htp2.1
      have htk4 := htk2.2.2.2.1
      have hi9 : i < n := by omega
      by_cases hc_z : tkP B n ps = 43
      · have hop : (opS B n) ps = 2003 := if_pos hc_z
        have hop0 : (opS B n) ps ≠ 0 := by rw [hop]; decide
        have hln := tk_lt (B := B) (n := n) (s := ps) (by rw [hc_z]; decide)
        obtain ⟨k2_z, rfl⟩ : ∃ k2_z, k = k2_z + 1 := ⟨k - 1, by omega⟩
        have hnx := nxP_gt (B := B) hln
        have gq := hgd _ hnx.2
        by_cases hq : ((chP B n (atP B n (if lm = 5 then 8 else 6) 6) (opT B n)) (nxP B n ps)).1 = 0
        · obtain ⟨y1, y2, y3, y4⟩ := gq.1 hq
          refine r_iload2 dX5_readSum_12 ?_
          refine r_aloadR0 dX5_readSum_13 ?_
          refine m_getV (x := (f2_z A 1)) zf_RX5_15 rfl dX5_readSum_14 hr.1 (rfl) ?_
          refine t_icge (t := 82) dX5_readSum_17 (by decide) (fun h17 => False.elim (by omega)) (fun h17 => ?_)
          refine r_aloadR0 dX5_readSum_20 ?_
          refine m_getV (x := (f2_z A 4)) zf_RX5_25 rfl dX5_readSum_21 hr.1 (rfl) ?_
          refine n_bipush dX5_readSum_24 (by decide) (fun r24 e24_z => ?_)
          refine t_iceq (t := 38) dX5_readSum_26 (by decide) (fun h26 => ?_) (fun h26 => False.elim (by omega))
          refine r_aloadR0 dX5_readSum_38 ?_
          refine m_getV (x := (f2_z A 4)) zf_RX5_25 rfl dX5_readSum_39 hr.1 (rfl) ?_
          refine n_bipush dX5_readSum_42 (by decide) (fun r42 e42_z => ?_)
          refine t_icne (t := 53) dX5_readSum_44 (by decide) (fun h44 => False.elim (by omega)) (fun h44 => ?_)
          refine n_sipush dX5_readSum_47 (by decide) (fun r47 e47 => ?_)
          refine r_goto (t := 56) dX5_readSum_50 (by decide) ?_
          refine r_istore3 dX5_readSum_56 rfl ?_
          refine r_aloadR0 dX5_readSum_57 ?_
          refine q_callV0 zm_RX5_73 dX5_readSum_58 hr.1 (by decide) rfl (Nat.le_of_ble_eq_true rfl) (Nat.le_of_ble_eq_true rfl) (Nat.le_of_ble_eq_true rfl) (Nat.le_of_ble_eq_true rfl) (Nat.le_of_ble_eq_true rfl) (s_X5_next (p := teP B n ps) G hr kw ko htp2 htk2.2.1 (teP_le htk2.1) htk2.2.2.2.2.2.2 (fun v58 g58 o58 t58 => ?_))
          have t58 : tkR ca B n g58 v58 A (nxP B n ps) := t58
          have htpn := tpR_of htp2 ht o58 (by decide)
          have wn : g58 (A + 8) = f2_z (A + 8) := o58.2.1 8 (by decide) (by decide) (by decide)
          refine r_aloadR0 dX5_readSum_61 ?_
          refine r_iload1 dX5_readSum_62 ?_
          refine q_callV1 zm_RX5_191 dX5_readSum_63 hr.1 (by decide) rfl (Nat.le_of_ble_eq_true rfl) (Nat.le_of_ble_eq_true rfl) (Nat.le_of_ble_eq_true rfl) (Nat.le_of_ble_eq_true rfl) (Nat.le_of_ble_eq_true rfl) (s_X5_readTerm_6 (lm := lm) (u := u + c.length) G hr kw ko htpn t58 hx (by rw [o58.2.2 10 (by decide), ofr.2.2 10 (by decide)]; exact hol) (by rw [o58.2.2 9 (by decide)]; exact hok.1) (by omega) (fun rs vs gs os as bs => ?_))
          have as2 : ((chP B n (atP B n (if lm = 5 then 8 else 6) 6) (opT B n)) (nxP B n ps)).1 = 0 → rs.toInt = 1 ∧ tkR ca B n gs vs A ((chP B n (atP B n (if lm = 5 then 8 else 6) 6) (opT B n)) (nxP B n ps)).2.1 ∧ okR g58 gs A (u + c.length) ((chP B n (atP B n (if lm = 5 then 8 else 6) 6) (opT B n)) (nxP B n ps)).2.2 := as
          have bs2 : ((chP B n (atP B n (if lm = 5 then 8 else 6) 6) (opT B n)) (nxP B n ps)).1 ≠ 0 → rs.toInt = 0 ∧ flR gs A ((chP B n (atP B n (if lm = 5 then 8 else 6) 6) (opT B n)) (nxP B n ps)).1 ((chP B n (atP B n (if lm = 5 then 8 else 6) 6) (opT B n)) (nxP B n ps)).2.1 := bs
          have ofs : frM A [8] [2, 3, 4, 5, 9, 11, 12] f gs := frM_tr ofr (frM_tr (frM_su o58 (by decide) (by decide)) os)
          obtain ⟨cs, ts, ks⟩ := as2 hq
          refine t_ifne (t := 71) dX5_readSum_66 (by decide) (fun h66 => ?_) (fun h66 => False.elim (by omega))
          refine r_aloadR0 dX5_readSum_71 ?_
          refine r_iload3 dX5_readSum_72 ?_
          refine q_callV1 zm_RX5_173 dX5_readSum_73 hr.1 (by decide) rfl (Nat.le_of_ble_eq_true rfl) (Nat.le_of_ble_eq_true rfl) (Nat.le_of_ble_eq_true rfl) (Nat.le_of_ble_eq_true rfl) (Nat.le_of_ble_eq_true rfl) (s_X5_emit (u := u + c.length + ((chP B n (atP B n (if lm = 5 then 8 else 6) 6) (opT B n)) (nxP B n ps)).2.2.length) G hr ks.1 (by omega) (fun g73 o73 a73 b73 c73 => ?_))
          refine n_iinc2 dX5_readSum_76 (by decide) rfl (by omega) (fun r76 e76 => ?_)
          refine r_goto (t := 12) dX5_readSum_79 (by decide) ?_
          refine ih _ (i + 1) k2_z ((chP B n (atP B n (if lm = 5 then 8 else 6) 6) (opT B n)) (nxP B n ps)).2.1 (c ++ ((chP B n (atP B n (if lm = 5 then 8 else 6) 6) (opT B n)) (nxP B n ps)).2.2 ++ [(opS B n) ps]) g73 _ _ (by omega) (frM_tr ofs (frM_su o73 (by decide) (by decide))) (tkR_of ts o73 (by decide) (by decide) (by decide) (by decide)) (okR_ap (okR_ap hok (okR_cg ks wn rfl rfl)) ?_) (by omega) y2 ?_ (by omega) ?_ (by omega)
          · rw [List.length_append, ← Nat.add_assoc, hop]
            exact okR_one a73 b73 c73 (by omega)
          · rw [List.length_append, List.length_append, List.length_singleton]
            omega
          · exact (lpP_on (r := (0, ps, c)) rfl hop0 hq).symm.trans hR
        · have hv : ((chP B n (atP B n (if lm = 5 then 8 else 6) 6) (opT B n)) (nxP B n ps)) = chP B n (chP B n (atP B n (if lm = 5 then 8 else 6) 6) (opT B n)) (opS B n) p := (lpP_sub (k := k2_z) (r := (0, ps, c)) rfl hop0 hq).symm.trans hR
          refine r_iload2 dX5_readSum_12 ?_
          refine r_aloadR0 dX5_readSum_13 ?_
          refine m_getV (x := (f2_z A 1)) zf_RX5_15 rfl dX5_readSum_14 hr.1 (rfl) ?_
          refine t_icge (t := 82) dX5_readSum_17 (by decide) (fun h17 => False.elim (by omega)) (fun h17 => ?_)
          refine r_aloadR0 dX5_readSum_20 ?_
          refine m_getV (x := (f2_z A 4)) zf_RX5_25 rfl dX5_readSum_21 hr.1 (rfl) ?_
          refine n_bipush dX5_readSum_24 (by decide) (fun r24 e24_z => ?_)
          refine t_iceq (t := 38) dX5_readSum_26 (by decide) (fun h26 => ?_) (fun h26 => False.elim (by omega))
          refine r_aloadR0 dX5_readSum_38 ?_
          refine m_getV (x := (f2_z A 4)) zf_RX5_25 rfl dX5_readSum_39 hr.1 (rfl) ?_
          refine n_bipush dX5_readSum_42 (by decide) (fun r42 e42_z => ?_)
          refine t_icne (t := 53) dX5_readSum_44 (by decide) (fun h44 => False.elim (by omega)) (fun h44 => ?_)
          refine n_sipush dX5_readSum_47 (by decide) (fun r47 e47 => ?_)
          refine r_goto (t := 56) dX5_readSum_50 (by decide) ?_
          refine r_istore3 dX5_readSum_56 rfl ?_
          refine r_aloadR0 dX5_readSum_57 ?_
          refine q_callV0 zm_RX5_73 dX5_readSum_58 hr.1 (by decide) rfl (Nat.le_of_ble_eq_true rfl) (Nat.le_of_ble_eq_true rfl) (Nat.le_of_ble_eq_true rfl) (Nat.le_of_ble_eq_true rfl) (Nat.le_of_ble_eq_true rfl) (s_X5_next (p := teP B n ps) G hr kw ko htp2 htk2.2.1 (teP_le htk2.1) htk2.2.2.2.2.2.2 (fun v58 g58 o58 t58 => ?_))
          have t58 : tkR ca B n g58 v58 A (nxP B n ps) := t58
          have htpn := tpR_of htp2 ht o58 (by decide)
          have wn : g58 (A + 8) = f2_z (A + 8) := o58.2.1 8 (by decide) (by decide) (by decide)
          refine r_aloadR0 dX5_readSum_61 ?_
          refine r_iload1 dX5_readSum_62 ?_
          refine q_callV1 zm_RX5_191 dX5_readSum_63 hr.1 (by decide) rfl (Nat.le_of_ble_eq_true rfl) (Nat.le_of_ble_eq_true rfl) (Nat.le_of_ble_eq_true rfl) (Nat.le_of_ble_eq_true rfl) (Nat.le_of_ble_eq_true rfl) (s_X5_readTerm_6 (lm := lm) (u := u + c.length) G hr kw ko htpn t58 hx (by rw [o58.2.2 10 (by decide), ofr.2.2 10 (by decide)]; exact hol) (by rw [o58.2.2 9 (by decide)]; exact hok.1) (by omega) (fun rs vs gs os as bs => ?_))
          have as2 : ((chP B n (atP B n (if lm = 5 then 8 else 6) 6) (opT B n)) (nxP B n ps)).1 = 0 → rs.toInt = 1 ∧ tkR ca B n gs vs A ((chP B n (atP B n (if lm = 5 then 8 else 6) 6) (opT B n)) (nxP B n ps)).2.1 ∧ okR g58 gs A (u + c.length) ((chP B n (atP B n (if lm = 5 then 8 else 6) 6) (opT B n)) (nxP B n ps)).2.2 := as
          have bs2 : ((chP B n (atP B n (if lm = 5 then 8 else 6) 6) (opT B n)) (nxP B n ps)).1 ≠ 0 → rs.toInt = 0 ∧ flR gs A ((chP B n (atP B n (if lm = 5 then 8 else 6) 6) (opT B n)) (nxP B n ps)).1 ((chP B n (atP B n (if lm = 5 then 8 else 6) 6) (opT B n)) (nxP B n ps)).2.1 := bs
          have ofs : frM A [8] [2, 3, 4, 5, 9, 11, 12] f gs := frM_tr ofr (frM_tr (frM_su o58 (by decide) (by decide)) os)
          obtain ⟨cs, ls⟩ := bs2 hq
          refine t_ifne (t := 71) dX5_readSum_66 (by decide) (fun h66 => False.elim (by omega)) (fun h66 => ?_)
          refine n_iconst dX5_readSum_69 (by decide) (fun r69 e69 => ?_)
          refine m_zret dX5_readSum_70 rfl (by omega) (Nat.le_of_ble_eq_true rfl) (Nat.le_of_ble_eq_true rfl) ?_
          rw [← hv] at hQ
          exact hQ _ _ gs ofs (fun h_z => absurd h_z hq) (fun _ => ⟨e69, ls⟩)
      have hcn := hc_z
      clear hc_z
      by_cases hc_z : tkP B n ps = 45
      · have hop : (opS B n) ps = 2004 := (if_neg (by omega)).trans (if_pos hc_z)
        have hop0 : (opS B n) ps ≠ 0 := by rw [hop]; decide
        have hln := tk_lt (B := B) (n := n) (s := ps) (by rw [hc_z]; decide)
        obtain ⟨k2_z, rfl⟩ : ∃ k2_z, k = k2_z + 1 := ⟨k - 1, by omega⟩
        have hnx := nxP_gt (B := B) hln
        have gq := hgd _ hnx.2
        by_cases hq : ((chP B n (atP B n (if lm = 5 then 8 else 6) 6) (opT B n)) (nxP B n ps)).1 = 0
        · obtain ⟨y1, y2, y3, y4⟩ := gq.1 hq
          refine r_iload2 dX5_readSum_12 ?_
          refine r_aloadR0 dX5_readSum_13 ?_
          refine m_getV (x := (f2_z A 1)) zf_RX5_15 rfl dX5_readSum_14 hr.1 (rfl) ?_
          refine t_icge (t := 82) dX5_readSum_17 (by decide) (fun h17 => False.elim (by omega)) (fun h17 => ?_)
          refine r_aloadR0 dX5_readSum_20 ?_
          refine m_getV (x := (f2_z A 4)) zf_RX5_25 rfl dX5_readSum_21 hr.1 (rfl) ?_
          refine n_bipush dX5_readSum_24 (by decide) (fun r24 e24_z => ?_)
          refine t_iceq (t := 38) dX5_readSum_26 (by decide) (fun h26 => False.elim (by omega)) (fun h26 => ?_)
          refine r_aloadR0 dX5_readSum_29 ?_
          refine m_getV (x := (f2_z A 4)) zf_RX5_25 rfl dX5_readSum_30 hr.1 (rfl) ?_
          refine n_bipush dX5_readSum_33 (by decide) (fun r33 e33_z => ?_)
          refine t_icne (t := 82) dX5_readSum_35 (by decide) (fun h35 => False.elim (by omega)) (fun h35 => ?_)
          refine r_aloadR0 dX5_readSum_38 ?_
          refine m_getV (x := (f2_z A 4)) zf_RX5_25 rfl dX5_readSum_39 hr.1 (rfl) ?_
          refine n_bipush dX5_readSum_42 (by decide) (fun r42 e42_z => ?_)
          refine t_icne (t := 53) dX5_readSum_44 (by decide) (fun h44 => ?_) (fun h44 => False.elim (by omega))
          refine n_sipush dX5_readSum_53 (by decide) (fun r53 e53 => ?_)
          refine r_istore3 dX5_readSum_56 rfl ?_
          refine r_aloadR0 dX5_readSum_57 ?_
          refine q_callV0 zm_RX5_73 dX5_readSum_58 hr.1 (by decide) rfl (Nat.le_of_ble_eq_true rfl) (Nat.le_of_ble_eq_true rfl) (Nat.le_of_ble_eq_true rfl) (Nat.le_of_ble_eq_true rfl) (Nat.le_of_ble_eq_true rfl) (s_X5_next (p := teP B n ps) G hr kw ko htp2 htk2.2.1 (teP_le htk2.1) htk2.2.2.2.2.2.2 (fun v58 g58 o58 t58 => ?_))
          have t58 : tkR ca B n g58 v58 A (nxP B n ps) := t58
          have htpn := tpR_of htp2 ht o58 (by decide)
          have wn : g58 (A + 8) = f2_z (A + 8) := o58.2.1 8 (by decide) (by decide) (by decide)
          refine r_aloadR0 dX5_readSum_61 ?_
          refine r_iload1 dX5_readSum_62 ?_
          refine q_callV1 zm_RX5_191 dX5_readSum_63 hr.1 (by decide) rfl (Nat.le_of_ble_eq_true rfl) (Nat.le_of_ble_eq_true rfl) (Nat.le_of_ble_eq_true rfl) (Nat.le_of_ble_eq_true rfl) (Nat.le_of_ble_eq_true rfl) (s_X5_readTerm_6 (lm := lm) (u := u + c.length) G hr kw ko htpn t58 hx (by rw [o58.2.2 10 (by decide), ofr.2.2 10 (by decide)]; exact hol) (by rw [o58.2.2 9 (by decide)]; exact hok.1) (by omega) (fun rs vs gs os as bs => ?_))
          have as2 : ((chP B n (atP B n (if lm = 5 then 8 else 6) 6) (opT B n)) (nxP B n ps)).1 = 0 → rs.toInt = 1 ∧ tkR ca B n gs vs A ((chP B n (atP B n (if lm = 5 then 8 else 6) 6) (opT B n)) (nxP B n ps)).2.1 ∧ okR g58 gs A (u + c.length) ((chP B n (atP B n (if lm = 5 then 8 else 6) 6) (opT B n)) (nxP B n ps)).2.2 := as
          have bs2 : ((chP B n (atP B n (if lm = 5 then 8 else 6) 6) (opT B n)) (nxP B n ps)).1 ≠ 0 → rs.toInt = 0 ∧ flR gs A ((chP B n (atP B n (if lm = 5 then 8 else 6) 6) (opT B n)) (nxP B n ps)).1 ((chP B n (atP B n (if lm = 5 then 8 else 6) 6) (opT B n)) (nxP B n ps)).2.1 := bs
          have ofs : frM A [8] [2, 3, 4, 5, 9, 11, 12] f gs := frM_tr ofr (frM_tr (frM_su o58 (by decide) (by decide)) os)
          obtain ⟨cs, ts, ks⟩ := as2 hq
          refine t_ifne (t := 71) dX5_readSum_66 (by decide) (fun h66 => ?_) (fun h66 => False.elim (by omega))
          refine r_aloadR0 dX5_readSum_71 ?_
          refine r_iload3 dX5_readSum_72 ?_
          refine q_callV1 zm_RX5_173 dX5_readSum_73 hr.1 (by decide) rfl (Nat.le_of_ble_eq_true rfl) (Nat.le_of_ble_eq_true rfl) (Nat.le_of_ble_eq_true rfl) (Nat.le_of_ble_eq_true rfl) (Nat.le_of_ble_eq_true rfl) (s_X5_emit (u := u + c.length + ((chP B n (atP B n (if lm = 5 then 8 else 6) 6) (opT B n)) (nxP B n ps)).2.2.length) G hr ks.1 (by omega) (fun g73 o73 a73 b73 c73 => ?_))
          refine n_iinc2 dX5_readSum_76 (by decide) rfl (by omega) (fun r76 e76 => ?_)
          refine r_goto (t := 12) dX5_readSum_79 (by decide) ?_
          refine ih _ (i + 1) k2_z ((chP B n (atP B n (if lm = 5 then 8 else 6) 6) (opT B n)) (nxP B n ps)).2.1 (c ++ ((chP B n (atP B n (if lm = 5 then 8 else 6) 6) (opT B n)) (nxP B n ps)).2.2 ++ [(opS B n) ps]) g73 _ _ (by omega) (frM_tr ofs (frM_su o73 (by decide) (by decide))) (tkR_of ts o73 (by decide) (by decide) (by decide) (by decide)) (okR_ap (okR_ap hok (okR_cg ks wn rfl rfl)) ?_) (by omega) y2 ?_ (by omega) ?_ (by omega)
          · rw [List.length_append, ← Nat.add_assoc, hop]
            exact okR_one a73 b73 c73 (by omega)
          · rw [List.length_append, List.length_append, List.length_singleton]
            omega
          · exact (lpP_on (r := (0, ps, c)) rfl hop0 hq).symm.trans hR
        · have hv : ((chP B n (atP B n (if lm = 5 then 8 else 6) 6) (opT B n)) (nxP B n ps)) = chP B n (chP B n (atP B n (if lm = 5 then 8 else 6) 6) (opT B n)) (opS B n) p := (lpP_sub (k := k2_z) (r := (0, ps, c)) rfl hop0 hq).symm.trans hR
          refine r_iload2 dX5_readSum_12 ?_
          refine r_aloadR0 dX5_readSum_13 ?_
          refine m_getV (x := (f2_z A 1)) zf_RX5_15 rfl dX5_readSum_14 hr.1 (rfl) ?_
          refine t_icge (t := 82) dX5_readSum_17 (by decide) (fun h17 => False.elim (by omega)) (fun h17 => ?_)
          refine r_aloadR0 dX5_readSum_20 ?_
          refine m_getV (x := (f2_z A 4)) zf_RX5_25 rfl dX5_readSum_21 hr.1 (rfl) ?_
          refine n_bipush dX5_readSum_24 (by decide) (fun r24 e24_z => ?_)
          refine t_iceq (t := 38) dX5_readSum_26 (by decide) (fun h26 => False.elim (by omega)) (fun h26 => ?_)
          refine r_aloadR0 dX5_readSum_29 ?_
          refine m_getV (x := (f2_z A 4)) zf_RX5_25 rfl dX5_readSum_30 hr.1 (rfl) ?_
          refine n_bipush dX5_readSum_33 (by decide) (fun r33 e33_z => ?_)
          refine t_icne (t := 82) dX5_readSum_35 (by decide) (fun h35 => False.elim (by omega)) (fun h35 => ?_)
          refine r_aloadR0 dX5_readSum_38 ?_
          refine m_getV (x := (f2_z A 4)) zf_RX5_25 rfl dX5_readSum_39 hr.1 (rfl) ?_
          refine n_bipush dX5_readSum_42 (by decide) (fun r42 e42_z => ?_)
          refine t_icne (t := 53) dX5_readSum_44 (by decide) (fun h44 => ?_) (fun h44 => False.elim (by omega))
          refine n_sipush dX5_readSum_53 (by decide) (fun r53 e53 => ?_)
          refine r_istore3 dX5_readSum_56 rfl ?_
          refine r_aloadR0 dX5_readSum_57 ?_
          refine q_callV0 zm_RX5_73 dX5_readSum_58 hr.1 (by decide) rfl (Nat.le_of_ble_eq_true rfl) (Nat.le_of_ble_eq_true rfl) (Nat.le_of_ble_eq_true rfl) (Nat.le_of_ble_eq_true rfl) (Nat.le_of_ble_eq_true rfl) (s_X5_next (p := teP B n ps) G hr kw ko htp2 htk2.2.1 (teP_le htk2.1) htk2.2.2.2.2.2.2 (fun v58 g58 o58 t58 => ?_))
          have t58 : tkR ca B n g58 v58 A (nxP B n ps) := t58
          have htpn := tpR_of htp2 ht o58 (by decide)
          have wn : g58 (A + 8) = f2_z (A + 8) := o58.2.1 8 (by decide) (by decide) (by decide)
          refine r_aloadR0 dX5_readSum_61 ?_
          refine r_iload1 dX5_readSum_62 ?_
          refine q_callV1 zm_RX5_191 dX5_readSum_63 hr.1 (by decide) rfl (Nat.le_of_ble_eq_true rfl) (Nat.le_of_ble_eq_true rfl) (Nat.le_of_ble_eq_true rfl) (Nat.le_of_ble_eq_true rfl) (Nat.le_of_ble_eq_true rfl) (s_X5_readTerm_6 (lm := lm) (u := u + c.length) G hr kw ko htpn t58 hx (by rw [o58.2.2 10 (by decide), ofr.2.2 10 (by decide)]; exact hol) (by rw [o58.2.2 9 (by decide)]; exact hok.1) (by omega) (fun rs vs gs os as bs => ?_))
          have as2 : ((chP B n (atP B n (if lm = 5 then 8 else 6) 6) (opT B n)) (nxP B n ps)).1 = 0 → rs.toInt = 1 ∧ tkR ca B n gs vs A ((chP B n (atP B n (if lm = 5 then 8 else 6) 6) (opT B n)) (nxP B n ps)).2.1 ∧ okR g58 gs A (u + c.length) ((chP B n (atP B n (if lm = 5 then 8 else 6) 6) (opT B n)) (nxP B n ps)).2.2 := as
          have bs2 : ((chP B n (atP B n (if lm = 5 then 8 else 6) 6) (opT B n)) (nxP B n ps)).1 ≠ 0 → rs.toInt = 0 ∧ flR gs A ((chP B n (atP B n (if lm = 5 then 8 else 6) 6) (opT B n)) (nxP B n ps)).1 ((chP B n (atP B n (if lm = 5 then 8 else 6) 6) (opT B n)) (nxP B n ps)).2.1 := bs
          have ofs : frM A [8] [2, 3, 4, 5, 9, 11, 12] f gs := frM_tr ofr (frM_tr (frM_su o58 (by decide) (by decide)) os)
          obtain ⟨cs, ls⟩ := bs2 hq
          refine t_ifne (t := 71) dX5_readSum_66 (by decide) (fun h66 => False.elim (by omega)) (fun h66 => ?_)
          refine n_iconst dX5_readSum_69 (by decide) (fun r69 e69 => ?_)
          refine m_zret dX5_readSum_70 rfl (by omega) (Nat.le_of_ble_eq_true rfl) (Nat.le_of_ble_eq_true rfl) ?_
          rw [← hv] at hQ
          exact hQ _ _ gs ofs (fun h_z => absurd h_z hq) (fun _ => ⟨e69, ls⟩)
      have hop : (opS B n) ps = 0 := (if_neg hcn).trans (if_neg hc_z)
      have hv := (lpP_end (B := B) (n := n) (k := k) (sub := (chP B n (atP B n (if lm = 5 then 8 else 6) 6) (opT B n))) (r := (0, ps, c)) hop).symm.trans hR
      refine r_iload2 dX5_readSum_12 ?_
      refine r_aloadR0 dX5_readSum_13 ?_
      refine m_getV (x := (f2_z A 1)) zf_RX5_15 rfl dX5_readSum_14 hr.1 (rfl) ?_
      refine t_icge (t := 82) dX5_readSum_17 (by decide) (fun h17 => False.elim (by omega)) (fun h17 => ?_)
      refine r_aloadR0 dX5_readSum_20 ?_
      refine m_getV (x := (f2_z A 4)) zf_RX5_25 rfl dX5_readSum_21 hr.1 (rfl) ?_
      refine n_bipush dX5_readSum_24 (by decide) (fun r24 e24_z => ?_)
      refine t_iceq (t := 38) dX5_readSum_26 (by decide) (fun h26 => False.elim (by omega)) (fun h26 => ?_)
      refine r_aloadR0 dX5_readSum_29 ?_
      refine m_getV (x := (f2_z A 4)) zf_RX5_25 rfl dX5_readSum_30 hr.1 (rfl) ?_
      refine n_bipush dX5_readSum_33 (by decide) (fun r33 e33_z => ?_)
      refine t_icne (t := 82) dX5_readSum_35 (by decide) (fun h35 => ?_) (fun h35 => False.elim (by omega))
      refine n_iconst dX5_readSum_82 (by decide) (fun r82 e82 => ?_)
      refine m_zret dX5_readSum_83 rfl (by omega) (Nat.le_of_ble_eq_true rfl) (Nat.le_of_ble_eq_true rfl) ?_
      rw [← hv] at hQ
      exact hQ _ _ f2_z ofr (fun _ => ⟨e82, htk2, hok⟩) (fun h_z => absurd rfl h_z)
  have gp := hgd p hpn
  by_cases hq : ((chP B n (atP B n (if lm = 5 then 8 else 6) 6) (opT B n)) p).1 = 0
  · obtain ⟨y1, y2, y3, y4⟩ := gp.1 hq
    have hz : ((chP B n (atP B n (if lm = 5 then 8 else 6) 6) (opT B n)) p) = (0, ((chP B n (atP B n (if lm = 5 then 8 else 6) 6) (opT B n)) p).2.1, ((chP B n (atP B n (if lm = 5 then 8 else 6) 6) (opT B n)) p).2.2) := Prod.ext hq rfl
    refine r_aloadR0 dX5_readSum_0 ?_
    refine r_iload1 dX5_readSum_1 ?_
    refine q_callV1 zm_RX5_191 dX5_readSum_2 hr.1 (by decide) rfl (Nat.le_of_ble_eq_true rfl) (Nat.le_of_ble_eq_true rfl) (Nat.le_of_ble_eq_true rfl) (Nat.le_of_ble_eq_true rfl) (Nat.le_of_ble_eq_true rfl) (s_X5_readTerm_6 G hr kw ko htp htk hx hol hu hup (fun r2 v2 g2 o2 a2 b2 => ?_))
    have a2b : ((chP B n (atP B n (if lm = 5 then 8 else 6) 6) (opT B n)) p).1 = 0 → r2.toInt = 1 ∧ tkR ca B n g2 v2 A ((chP B n (atP B n (if lm = 5 then 8 else 6) 6) (opT B n)) p).2.1 ∧ okR f g2 A u ((chP B n (atP B n (if lm = 5 then 8 else 6) 6) (opT B n)) p).2.2 := a2
    have b2b : ((chP B n (atP B n (if lm = 5 then 8 else 6) 6) (opT B n)) p).1 ≠ 0 → r2.toInt = 0 ∧ flR g2 A ((chP B n (atP B n (if lm = 5 then 8 else 6) 6) (opT B n)) p).1 ((chP B n (atP B n (if lm = 5 then 8 else 6) 6) (opT B n)) p).2.1 := b2
    obtain ⟨c2_z, t2, k2_z⟩ := a2b hq
    refine t_ifne (t := 10) dX5_readSum_5 (by decide) (fun h5 => ?_) (fun h5 => False.elim (by omega))
    refine n_iconst dX5_readSum_10 (by decide) (fun r10 e10_z => ?_)
    refine r_istore2 dX5_readSum_11 rfl ?_
    exact lp (n + 1) _ 0 n ((chP B n (atP B n (if lm = 5 then 8 else 6) 6) (opT B n)) p).2.1 ((chP B n (atP B n (if lm = 5 then 8 else 6) 6) (opT B n)) p).2.2 g2 _ _ (by omega) o2 t2 k2_z (by omega) y2 y3 (by omega) (by rw [← hz]; rfl) (Nat.lt_succ_self n)
  · have hv : chP B n (chP B n (atP B n (if lm = 5 then 8 else 6) 6) (opT B n)) (opS B n) p = ((chP B n (atP B n (if lm = 5 then 8 else 6) 6) (opT B n)) p) := lpP_bad hq
    rw [hv] at hQ
    refine r_aloadR0 dX5_readSum_0 ?_
    refine r_iload1 dX5_readSum_1 ?_
    refine q_callV1 zm_RX5_191 dX5_readSum_2 hr.1 (by decide) rfl (Nat.le_of_ble_eq_true rfl) (Nat.le_of_ble_eq_true rfl) (Nat.le_of_ble_eq_true rfl) (Nat.le_of_ble_eq_true rfl) (Nat.le_of_ble_eq_true rfl) (s_X5_readTerm_6 G hr kw ko htp htk hx hol hu hup (fun r2 v2 g2 o2 a2 b2 => ?_))
    have a2b : ((chP B n (atP B n (if lm = 5 then 8 else 6) 6) (opT B n)) p).1 = 0 → r2.toInt = 1 ∧ tkR ca B n g2 v2 A ((chP B n (atP B n (if lm = 5 then 8 else 6) 6) (opT B n)) p).2.1 ∧ okR f g2 A u ((chP B n (atP B n (if lm = 5 then 8 else 6) 6) (opT B n)) p).2.2 := a2
    have b2b : ((chP B n (atP B n (if lm = 5 then 8 else 6) 6) (opT B n)) p).1 ≠ 0 → r2.toInt = 0 ∧ flR g2 A ((chP B n (atP B n (if lm = 5 then 8 else 6) 6) (opT B n)) p).1 ((chP B n (atP B n (if lm = 5 then 8 else 6) 6) (opT B n)) p).2.1 := b2
    obtain ⟨c2_z, l2⟩ := b2b hq
    refine t_ifne (t := 10) dX5_readSum_5 (by decide) (fun h5 => False.elim (by omega)) (fun h5 => ?_)
    refine n_iconst dX5_readSum_8 (by decide) (fun r8 e8 => ?_)
    refine m_zret dX5_readSum_9 rfl (by omega) (Nat.le_of_ble_eq_true rfl) (Nat.le_of_ble_eq_true rfl) ?_
    exact hQ _ _ g2 o2 (fun h_z => absurd h_z hq) (fun _ => ⟨e8, l2⟩)
