/-! the class's Reader: truths at each depth -/
set_option maxHeartbeats 4000000 in
set_option maxRecDepth 100000 in
theorem s_X5_readUnit_0 {g : zGT} {w : zW} {f : Nat → Nat → Int32} {j : Nat → Nat → Int64} {A tq nq : Nat} {v : Option Nat} {B : Nat → Nat} {n : Nat} {ca wa wv : Nat → Nat} {kq ta sm gq gv : Nat} {p lm u : Nat} {x : Int32} {Q : Option Value → zW → Prop} {QX : String → zW → Prop} (G : zGok g) (hr : shRd w A tq nq) (kw : kWd g wa wv kq) (ko : kWo g ca wa wv ta sm gq gv) (htp : tpR B n f A tq) (htk : tkR ca B n f v A p) (hx : x.toInt = 6) (hol : (f A 10).toInt = if lm = 5 then 1 else 0) (hu : (f A 9).toInt = (u : Nat)) (hup : u ≤ p) (hQ : ∀ (b : Int32) v2 f2_z, frM A [8] [2, 3, 4, 5, 9, 11, 12] f f2_z → ((unP B n (if lm = 5 then 8 else 6) 0 p).1 = 0 → b.toInt = 1 ∧ tkR ca B n f2_z v2 A (unP B n (if lm = 5 then 8 else 6) 0 p).2.1 ∧ okR f f2_z A u (unP B n (if lm = 5 then 8 else 6) 0 p).2.2) → ((unP B n (if lm = 5 then 8 else 6) 0 p).1 ≠ 0 → b.toInt = 0 ∧ flR f2_z A (unP B n (if lm = 5 then 8 else 6) 0 p).1 (unP B n (if lm = 5 then 8 else 6) 0 p).2.1) → Q (some (.int b)) (zM (wW w A v2) f2_z j)) : zC g 40 yX5_readUnit cX5_readUnit 3 (some .boolean) [.ref A, .int x] (zM (wW w A v) f j) (0, 0) Q QX := by
  refine zC_of G (by decide +kernel) (Nat.le_of_ble_eq_true rfl) ?_
  have ht := hr.2.2.2.2.2.2
  have h4 := htk.2.2.2.1
  have hpn := htk.1
  have h900 := htp.2.1
  have hsm : ∀ s, s ≤ n → gdP n false (if lm = 5 then 8 else 6) (1 + 2 * 0 + 2) s (smP B n (if lm = 5 then 8 else 6) 0 s) := fun s hs9 => gd_su (gd_at (by split <;> decide) 0) hs9
  by_cases hw : isWd B n p 8 = true
  · have hv : unP B n (if lm = 5 then 8 else 6) 0 p = (4, p, []) := if_pos (Or.inl hw)
    rw [hv] at hQ
    refine r_aloadR0 dX5_readUnit_0 ?_
    refine k_gets (ko.2.1 ("NOT", 8) (List.mem_of_getElem? (i := 4) rfl)) zg_RX5_182 dX5_readUnit_1 ?_
    refine q_callV1 zm_RX5_170 dX5_readUnit_4 hr.1 (by decide) rfl (Nat.le_of_ble_eq_true rfl) (Nat.le_of_ble_eq_true rfl) (Nat.le_of_ble_eq_true rfl) (Nat.le_of_ble_eq_true rfl) (Nat.le_of_ble_eq_true rfl) (s_X5_isWord (i := 8) G hr kw ko (by decide) htk (fun r4 e4_z => ?_))
    have e4b : r4.toInt = 1 := e4_z.elim (fun h_z => h_z.1) (fun h_z => absurd hw h_z.2)
    refine t_ifeq (t := 39) dX5_readUnit_7 (by decide) (fun h7 => False.elim (by omega)) (fun h7 => ?_)
    refine r_aloadR0 dX5_readUnit_10 ?_
    refine r_iload1 dX5_readUnit_11 ?_
    refine q_callV1 zm_RX5_185 dX5_readUnit_12 hr.1 (by decide) rfl (Nat.le_of_ble_eq_true rfl) (Nat.le_of_ble_eq_true rfl) (Nat.le_of_ble_eq_true rfl) (Nat.le_of_ble_eq_true rfl) (Nat.le_of_ble_eq_true rfl) (s_X5_goDeeper (d := 6) G hr kw ko htp hx htk (fun rd vd gd od ad bd => ?_))
    obtain ⟨cd, ld⟩ := bd (Nat.le_refl 6)
    refine t_ifeq (t := 28) dX5_readUnit_15 (by decide) (fun h15 => ?_) (fun h15 => False.elim (by omega))
    refine n_iconst dX5_readUnit_28 (by decide) (fun r28 e28_z => ?_)
    refine m_zret dX5_readUnit_29 rfl (by omega) (Nat.le_of_ble_eq_true rfl) (Nat.le_of_ble_eq_true rfl) ?_
    exact hQ _ _ gd (frM_su od (by decide) (by decide)) (fun h_z => absurd (show (4 : Nat) = 0 from h_z) (by decide)) (fun _ => ⟨e28_z, ld⟩)
  by_cases hp : tkP B n p = 91
  · have hv : unP B n (if lm = 5 then 8 else 6) 0 p = (4, p, []) := if_pos (Or.inr hp)
    rw [hv] at hQ
    refine r_aloadR0 dX5_readUnit_0 ?_
    refine k_gets (ko.2.1 ("NOT", 8) (List.mem_of_getElem? (i := 4) rfl)) zg_RX5_182 dX5_readUnit_1 ?_
    refine q_callV1 zm_RX5_170 dX5_readUnit_4 hr.1 (by decide) rfl (Nat.le_of_ble_eq_true rfl) (Nat.le_of_ble_eq_true rfl) (Nat.le_of_ble_eq_true rfl) (Nat.le_of_ble_eq_true rfl) (Nat.le_of_ble_eq_true rfl) (s_X5_isWord (i := 8) G hr kw ko (by decide) htk (fun r4 e4_z => ?_))
    have e4b : r4.toInt = 0 := e4_z.elim (fun h_z => absurd h_z.2 hw) (fun h_z => h_z.1)
    refine t_ifeq (t := 39) dX5_readUnit_7 (by decide) (fun h7 => ?_) (fun h7 => False.elim (by omega))
    refine r_aloadR0 dX5_readUnit_39 ?_
    refine m_getV (x := (f A 4)) zf_RX5_25 rfl dX5_readUnit_40 hr.1 (rfl) ?_
    refine n_bipush dX5_readUnit_43 (by decide) (fun r43 e43 => ?_)
    refine t_icne (t := 81) dX5_readUnit_45 (by decide) (fun h45 => False.elim (by omega)) (fun h45 => ?_)
    refine r_aloadR0 dX5_readUnit_48 ?_
    refine r_iload1 dX5_readUnit_49 ?_
    refine q_callV1 zm_RX5_185 dX5_readUnit_50 hr.1 (by decide) rfl (Nat.le_of_ble_eq_true rfl) (Nat.le_of_ble_eq_true rfl) (Nat.le_of_ble_eq_true rfl) (Nat.le_of_ble_eq_true rfl) (Nat.le_of_ble_eq_true rfl) (s_X5_goDeeper (d := 6) G hr kw ko htp hx htk (fun rd vd gd od ad bd => ?_))
    obtain ⟨cd, ld⟩ := bd (Nat.le_refl 6)
    refine t_ifeq (t := 79) dX5_readUnit_53 (by decide) (fun h53 => ?_) (fun h53 => False.elim (by omega))
    refine n_iconst dX5_readUnit_79 (by decide) (fun r79 e79 => ?_)
    refine m_zret dX5_readUnit_80 rfl (by omega) (Nat.le_of_ble_eq_true rfl) (Nat.le_of_ble_eq_true rfl) ?_
    exact hQ _ _ gd (frM_su od (by decide) (by decide)) (fun h_z => absurd (show (4 : Nat) = 0 from h_z) (by decide)) (fun _ => ⟨e79, ld⟩)
  have hv0 : unP B n (if lm = 5 then 8 else 6) 0 p = cmP B n (smP B n (if lm = 5 then 8 else 6) 0) p := if_neg (fun h_z => h_z.elim hw hp)
  rw [hv0] at hQ
  by_cases hq : (smP B n (if lm = 5 then 8 else 6) 0 p).1 = 0
  · obtain ⟨y1, y2, y3, y4⟩ := (hsm p hpn).1 hq
    by_cases hop : opC B n (smP B n (if lm = 5 then 8 else 6) 0 p).2.1 = 0
    · have hv : cmP B n (smP B n (if lm = 5 then 8 else 6) 0) p = (baP B n (smP B n (if lm = 5 then 8 else 6) 0 p).2.1, (smP B n (if lm = 5 then 8 else 6) 0 p).2.1, []) := (if_neg (not_not_intro hq)).trans (if_pos hop)
      rw [hv] at hQ
      have hba := ba_bd (B := B) (n := n) (s := (smP B n (if lm = 5 then 8 else 6) 0 p).2.1)
      refine r_aloadR0 dX5_readUnit_0 ?_
      refine k_gets (ko.2.1 ("NOT", 8) (List.mem_of_getElem? (i := 4) rfl)) zg_RX5_182 dX5_readUnit_1 ?_
      refine q_callV1 zm_RX5_170 dX5_readUnit_4 hr.1 (by decide) rfl (Nat.le_of_ble_eq_true rfl) (Nat.le_of_ble_eq_true rfl) (Nat.le_of_ble_eq_true rfl) (Nat.le_of_ble_eq_true rfl) (Nat.le_of_ble_eq_true rfl) (s_X5_isWord (i := 8) G hr kw ko (by decide) htk (fun r4 e4_z => ?_))
      have e4b : r4.toInt = 0 := e4_z.elim (fun h_z => absurd h_z.2 hw) (fun h_z => h_z.1)
      refine t_ifeq (t := 39) dX5_readUnit_7 (by decide) (fun h7 => ?_) (fun h7 => False.elim (by omega))
      refine r_aloadR0 dX5_readUnit_39 ?_
      refine m_getV (x := (f A 4)) zf_RX5_25 rfl dX5_readUnit_40 hr.1 (rfl) ?_
      refine n_bipush dX5_readUnit_43 (by decide) (fun r43 e43 => ?_)
      refine t_icne (t := 81) dX5_readUnit_45 (by decide) (fun h45 => ?_) (fun h45 => False.elim (by omega))
      refine r_aloadR0 dX5_readUnit_81 ?_
      refine r_iload1 dX5_readUnit_82 ?_
      refine q_callV1 zm_RX5_146 dX5_readUnit_83 hr.1 (by decide) rfl (Nat.le_of_ble_eq_true rfl) (Nat.le_of_ble_eq_true rfl) (Nat.le_of_ble_eq_true rfl) (Nat.le_of_ble_eq_true rfl) (Nat.le_of_ble_eq_true rfl) (s_X5_readSum_0 (lm := lm) (u := u) G hr kw ko htp htk hx hol hu hup (fun r83 v83 g83 o83 a83 b83 => ?_))
      have a83b : (smP B n (if lm = 5 then 8 else 6) 0 p).1 = 0 → r83.toInt = 1 ∧ tkR ca B n g83 v83 A (smP B n (if lm = 5 then 8 else 6) 0 p).2.1 ∧ okR f g83 A u (smP B n (if lm = 5 then 8 else 6) 0 p).2.2 := a83
      have b83b : (smP B n (if lm = 5 then 8 else 6) 0 p).1 ≠ 0 → r83.toInt = 0 ∧ flR g83 A (smP B n (if lm = 5 then 8 else 6) 0 p).1 (smP B n (if lm = 5 then 8 else 6) 0 p).2.1 := b83
      obtain ⟨c83, t83, k83⟩ := a83b hq
      have htp83 := tpR_of htp ht o83 (by decide)
      refine t_ifne (t := 91) dX5_readUnit_86 (by decide) (fun h86 => ?_) (fun h86 => False.elim (by omega))
      refine r_aloadR0 dX5_readUnit_91 ?_
      refine q_callV0 zm_RX5_188 dX5_readUnit_92 hr.1 (by decide) rfl (Nat.le_of_ble_eq_true rfl) (Nat.le_of_ble_eq_true rfl) (Nat.le_of_ble_eq_true rfl) (Nat.le_of_ble_eq_true rfl) (Nat.le_of_ble_eq_true rfl) (s_X5_comparing (n := n) (B := B) (s := (smP B n (if lm = 5 then 8 else 6) 0 p).2.1) G hr t83 (fun r92 a92 b92 => ?_))
      have e92_z := a92 hop
      refine r_istore2 dX5_readUnit_95 rfl ?_
      refine r_iload2 dX5_readUnit_96 ?_
      refine n_iconst dX5_readUnit_97 (by decide) (fun r97 e97_z => ?_)
      refine t_icne (t := 106) dX5_readUnit_98 (by decide) (fun h98 => False.elim (by omega)) (fun h98 => ?_)
      refine r_aloadR0 dX5_readUnit_101 ?_
      refine q_callV0 zm_RX5_80 dX5_readUnit_102 hr.1 (by decide) rfl (Nat.le_of_ble_eq_true rfl) (Nat.le_of_ble_eq_true rfl) (Nat.le_of_ble_eq_true rfl) (Nat.le_of_ble_eq_true rfl) (Nat.le_of_ble_eq_true rfl) (s_X5_refuseToken G hr t83 (fun r102 g102 e102_z o102 l102 => ?_))
      refine m_zret dX5_readUnit_105 rfl (by omega) (Nat.le_of_ble_eq_true rfl) (Nat.le_of_ble_eq_true rfl) ?_
      exact hQ _ _ g102 (frM_tr o83 (frM_su o102 (by decide) (by decide))) (fun h_z => absurd h_z hba.1) (fun _ => ⟨e102_z, l102⟩)
    · have hcb := (hop_C (B := B) (n := n) _ hop)
      have hnx := nxP_gt (B := B) hcb.1
      have hge : 2000 ≤ opC B n (smP B n (if lm = 5 then 8 else 6) 0 p).2.1 := by rcases hcb.2 with ⟨_, _, h_z⟩ | ⟨_, _, h_z⟩ | ⟨_, _, h_z⟩ <;> omega
      by_cases hq2 : (smP B n (if lm = 5 then 8 else 6) 0 (nxP B n (smP B n (if lm = 5 then 8 else 6) 0 p).2.1)).1 = 0
      · obtain ⟨z1, z2, z3, z4⟩ := (hsm _ hnx.2).1 hq2
        have hv : cmP B n (smP B n (if lm = 5 then 8 else 6) 0) p = (0, (smP B n (if lm = 5 then 8 else 6) 0 (nxP B n (smP B n (if lm = 5 then 8 else 6) 0 p).2.1)).2.1, (smP B n (if lm = 5 then 8 else 6) 0 p).2.2 ++ (smP B n (if lm = 5 then 8 else 6) 0 (nxP B n (smP B n (if lm = 5 then 8 else 6) 0 p).2.1)).2.2 ++ [opC B n (smP B n (if lm = 5 then 8 else 6) 0 p).2.1]) := (if_neg (not_not_intro hq)).trans ((if_neg hop).trans (if_neg (not_not_intro hq2)))
        rw [hv] at hQ
        refine r_aloadR0 dX5_readUnit_0 ?_
        refine k_gets (ko.2.1 ("NOT", 8) (List.mem_of_getElem? (i := 4) rfl)) zg_RX5_182 dX5_readUnit_1 ?_
        refine q_callV1 zm_RX5_170 dX5_readUnit_4 hr.1 (by decide) rfl (Nat.le_of_ble_eq_true rfl) (Nat.le_of_ble_eq_true rfl) (Nat.le_of_ble_eq_true rfl) (Nat.le_of_ble_eq_true rfl) (Nat.le_of_ble_eq_true rfl) (s_X5_isWord (i := 8) G hr kw ko (by decide) htk (fun r4 e4_z => ?_))
        have e4b : r4.toInt = 0 := e4_z.elim (fun h_z => absurd h_z.2 hw) (fun h_z => h_z.1)
        refine t_ifeq (t := 39) dX5_readUnit_7 (by decide) (fun h7 => ?_) (fun h7 => False.elim (by omega))
        refine r_aloadR0 dX5_readUnit_39 ?_
        refine m_getV (x := (f A 4)) zf_RX5_25 rfl dX5_readUnit_40 hr.1 (rfl) ?_
        refine n_bipush dX5_readUnit_43 (by decide) (fun r43 e43 => ?_)
        refine t_icne (t := 81) dX5_readUnit_45 (by decide) (fun h45 => ?_) (fun h45 => False.elim (by omega))
        refine r_aloadR0 dX5_readUnit_81 ?_
        refine r_iload1 dX5_readUnit_82 ?_
        refine q_callV1 zm_RX5_146 dX5_readUnit_83 hr.1 (by decide) rfl (Nat.le_of_ble_eq_true rfl) (Nat.le_of_ble_eq_true rfl) (Nat.le_of_ble_eq_true rfl) (Nat.le_of_ble_eq_true rfl) (Nat.le_of_ble_eq_true rfl) (s_X5_readSum_0 (lm := lm) (u := u) G hr kw ko htp htk hx hol hu hup (fun r83 v83 g83 o83 a83 b83 => ?_))
        have a83b : (smP B n (if lm = 5 then 8 else 6) 0 p).1 = 0 → r83.toInt = 1 ∧ tkR ca B n g83 v83 A (smP B n (if lm = 5 then 8 else 6) 0 p).2.1 ∧ okR f g83 A u (smP B n (if lm = 5 then 8 else 6) 0 p).2.2 := a83
        have b83b : (smP B n (if lm = 5 then 8 else 6) 0 p).1 ≠ 0 → r83.toInt = 0 ∧ flR g83 A (smP B n (if lm = 5 then 8 else 6) 0 p).1 (smP B n (if lm = 5 then 8 else 6) 0 p).2.1 := b83
        obtain ⟨c83, t83, k83⟩ := a83b hq
        have htp83 := tpR_of htp ht o83 (by decide)
        refine t_ifne (t := 91) dX5_readUnit_86 (by decide) (fun h86 => ?_) (fun h86 => False.elim (by omega))
        refine r_aloadR0 dX5_readUnit_91 ?_
        refine q_callV0 zm_RX5_188 dX5_readUnit_92 hr.1 (by decide) rfl (Nat.le_of_ble_eq_true rfl) (Nat.le_of_ble_eq_true rfl) (Nat.le_of_ble_eq_true rfl) (Nat.le_of_ble_eq_true rfl) (Nat.le_of_ble_eq_true rfl) (s_X5_comparing (n := n) (B := B) (s := (smP B n (if lm = 5 then 8 else 6) 0 p).2.1) G hr t83 (fun r92 a92 b92 => ?_))
        have e92_z := b92 hop
        refine r_istore2 dX5_readUnit_95 rfl ?_
        refine r_iload2 dX5_readUnit_96 ?_
        refine n_iconst dX5_readUnit_97 (by decide) (fun r97 e97_z => ?_)
        refine t_icne (t := 106) dX5_readUnit_98 (by decide) (fun h98 => ?_) (fun h98 => False.elim (by omega))
        refine r_aloadR0 dX5_readUnit_106 ?_
        refine q_callV0 zm_RX5_73 dX5_readUnit_107 hr.1 (by decide) rfl (Nat.le_of_ble_eq_true rfl) (Nat.le_of_ble_eq_true rfl) (Nat.le_of_ble_eq_true rfl) (Nat.le_of_ble_eq_true rfl) (Nat.le_of_ble_eq_true rfl) (s_X5_next (p := teP B n (smP B n (if lm = 5 then 8 else 6) 0 p).2.1) G hr kw ko htp83 t83.2.1 (teP_le t83.1) t83.2.2.2.2.2.2 (fun v107 g107 o107 t107 => ?_))
        have t107 : tkR ca B n g107 v107 A (nxP B n (smP B n (if lm = 5 then 8 else 6) 0 p).2.1) := t107
        have htpn := tpR_of htp83 ht o107 (by decide)
        have wn : g107 (A + 8) = g83 (A + 8) := o107.2.1 8 (by decide) (by decide) (by decide)
        refine r_aloadR0 dX5_readUnit_110 ?_
        refine r_iload1 dX5_readUnit_111 ?_
        refine q_callV1 zm_RX5_146 dX5_readUnit_112 hr.1 (by decide) rfl (Nat.le_of_ble_eq_true rfl) (Nat.le_of_ble_eq_true rfl) (Nat.le_of_ble_eq_true rfl) (Nat.le_of_ble_eq_true rfl) (Nat.le_of_ble_eq_true rfl) (s_X5_readSum_0 (lm := lm) (u := u + (smP B n (if lm = 5 then 8 else 6) 0 p).2.2.length) G hr kw ko htpn t107 hx (by rw [o107.2.2 10 (by decide), o83.2.2 10 (by decide)]; exact hol) (by rw [o107.2.2 9 (by decide)]; exact k83.1) (by omega) (fun rs vs gs os as bs => ?_))
        have as2 : (smP B n (if lm = 5 then 8 else 6) 0 (nxP B n (smP B n (if lm = 5 then 8 else 6) 0 p).2.1)).1 = 0 → rs.toInt = 1 ∧ tkR ca B n gs vs A (smP B n (if lm = 5 then 8 else 6) 0 (nxP B n (smP B n (if lm = 5 then 8 else 6) 0 p).2.1)).2.1 ∧ okR g107 gs A (u + (smP B n (if lm = 5 then 8 else 6) 0 p).2.2.length) (smP B n (if lm = 5 then 8 else 6) 0 (nxP B n (smP B n (if lm = 5 then 8 else 6) 0 p).2.1)).2.2 := as
        have bs2 : (smP B n (if lm = 5 then 8 else 6) 0 (nxP B n (smP B n (if lm = 5 then 8 else 6) 0 p).2.1)).1 ≠ 0 → rs.toInt = 0 ∧ flR gs A (smP B n (if lm = 5 then 8 else 6) 0 (nxP B n (smP B n (if lm = 5 then 8 else 6) 0 p).2.1)).1 (smP B n (if lm = 5 then 8 else 6) 0 (nxP B n (smP B n (if lm = 5 then 8 else 6) 0 p).2.1)).2.1 := bs
        have ofs : frM A [8] [2, 3, 4, 5, 9, 11, 12] f gs := frM_tr o83 (frM_tr (frM_su o107 (by decide) (by decide)) os)
        obtain ⟨cs, ts, ks⟩ := as2 hq2
        refine t_ifne (t := 120) dX5_readUnit_115 (by decide) (fun h115 => ?_) (fun h115 => False.elim (by omega))
        refine r_aloadR0 dX5_readUnit_120 ?_
        refine r_iload2 dX5_readUnit_121 ?_
        refine q_callV1 zm_RX5_173 dX5_readUnit_122 hr.1 (by decide) rfl (Nat.le_of_ble_eq_true rfl) (Nat.le_of_ble_eq_true rfl) (Nat.le_of_ble_eq_true rfl) (Nat.le_of_ble_eq_true rfl) (Nat.le_of_ble_eq_true rfl) (s_X5_emit (u := u + (smP B n (if lm = 5 then 8 else 6) 0 p).2.2.length + (smP B n (if lm = 5 then 8 else 6) 0 (nxP B n (smP B n (if lm = 5 then 8 else 6) 0 p).2.1)).2.2.length) G hr ks.1 (by omega) (fun g122 o122 a122 b122 c122 => ?_))
        refine n_iconst dX5_readUnit_125 (by decide) (fun r125 e125_z => ?_)
        refine m_zret dX5_readUnit_126 rfl (by omega) (Nat.le_of_ble_eq_true rfl) (Nat.le_of_ble_eq_true rfl) ?_
        refine hQ _ _ g122 (frM_tr ofs (frM_su o122 (by decide) (by decide))) (fun _ => ⟨e125_z, tkR_of ts o122 (by decide) (by decide) (by decide) (by decide), okR_ap (okR_ap k83 (okR_cg ks wn rfl rfl)) ?_⟩) (fun h_z => absurd rfl h_z)
        rw [List.length_append, ← Nat.add_assoc]
        exact okR_one a122 b122 c122 e92_z
      · have hv : cmP B n (smP B n (if lm = 5 then 8 else 6) 0) p = (smP B n (if lm = 5 then 8 else 6) 0 (nxP B n (smP B n (if lm = 5 then 8 else 6) 0 p).2.1)) := (if_neg (not_not_intro hq)).trans ((if_neg hop).trans (if_pos hq2))
        rw [hv] at hQ
        refine r_aloadR0 dX5_readUnit_0 ?_
        refine k_gets (ko.2.1 ("NOT", 8) (List.mem_of_getElem? (i := 4) rfl)) zg_RX5_182 dX5_readUnit_1 ?_
        refine q_callV1 zm_RX5_170 dX5_readUnit_4 hr.1 (by decide) rfl (Nat.le_of_ble_eq_true rfl) (Nat.le_of_ble_eq_true rfl) (Nat.le_of_ble_eq_true rfl) (Nat.le_of_ble_eq_true rfl) (Nat.le_of_ble_eq_true rfl) (s_X5_isWord (i := 8) G hr kw ko (by decide) htk (fun r4 e4_z => ?_))
        have e4b : r4.toInt = 0 := e4_z.elim (fun h_z => absurd h_z.2 hw) (fun h_z => h_z.1)
        refine t_ifeq (t := 39) dX5_readUnit_7 (by decide) (fun h7 => ?_) (fun h7 => False.elim (by omega))
        refine r_aloadR0 dX5_readUnit_39 ?_
        refine m_getV (x := (f A 4)) zf_RX5_25 rfl dX5_readUnit_40 hr.1 (rfl) ?_
        refine n_bipush dX5_readUnit_43 (by decide) (fun r43 e43 => ?_)
        refine t_icne (t := 81) dX5_readUnit_45 (by decide) (fun h45 => ?_) (fun h45 => False.elim (by omega))
        refine r_aloadR0 dX5_readUnit_81 ?_
        refine r_iload1 dX5_readUnit_82 ?_
        refine q_callV1 zm_RX5_146 dX5_readUnit_83 hr.1 (by decide) rfl (Nat.le_of_ble_eq_true rfl) (Nat.le_of_ble_eq_true rfl) (Nat.le_of_ble_eq_true rfl) (Nat.le_of_ble_eq_true rfl) (Nat.le_of_ble_eq_true rfl) (s_X5_readSum_0 (lm := lm) (u := u) G hr kw ko htp htk hx hol hu hup (fun r83 v83 g83 o83 a83 b83 => ?_))
        have a83b : (smP B n (if lm = 5 then 8 else 6) 0 p).1 = 0 → r83.toInt = 1 ∧ tkR ca B n g83 v83 A (smP B n (if lm = 5 then 8 else 6) 0 p).2.1 ∧ okR f g83 A u (smP B n (if lm = 5 then 8 else 6) 0 p).2.2 := a83
        have b83b : (smP B n (if lm = 5 then 8 else 6) 0 p).1 ≠ 0 → r83.toInt = 0 ∧ flR g83 A (smP B n (if lm = 5 then 8 else 6) 0 p).1 (smP B n (if lm = 5 then 8 else 6) 0 p).2.1 := b83
        obtain ⟨c83, t83, k83⟩ := a83b hq
        have htp83 := tpR_of htp ht o83 (by decide)
        refine t_ifne (t := 91) dX5_readUnit_86 (by decide) (fun h86 => ?_) (fun h86 => False.elim (by omega))
        refine r_aloadR0 dX5_readUnit_91 ?_
        refine q_callV0 zm_RX5_188 dX5_readUnit_92 hr.1 (by decide) rfl (Nat.le_of_ble_eq_true rfl) (Nat.le_of_ble_eq_true rfl) (Nat.le_of_ble_eq_true rfl) (Nat.le_of_ble_eq_true rfl) (Nat.le_of_ble_eq_true rfl) (s_X5_comparing (n := n) (B := B) (s := (smP B n (if lm = 5 then 8 else 6) 0 p).2.1) G hr t83 (fun r92 a92 b92 => ?_))
        have e92_z := b92 hop
        refine r_istore2 dX5_readUnit_95 rfl ?_
        refine r_iload2 dX5_readUnit_96 ?_
        refine n_iconst dX5_readUnit_97 (by decide) (fun r97 e97_z => ?_)
        refine t_icne (t := 106) dX5_readUnit_98 (by decide) (fun h98 => ?_) (fun h98 => False.elim (by omega))
        refine r_aloadR0 dX5_readUnit_106 ?_
        refine q_callV0 zm_RX5_73 dX5_readUnit_107 hr.1 (by decide) rfl (Nat.le_of_ble_eq_true rfl) (Nat.le_of_ble_eq_true rfl) (Nat.le_of_ble_eq_true rfl) (Nat.le_of_ble_eq_true rfl) (Nat.le_of_ble_eq_true rfl) (s_X5_next (p := teP B n (smP B n (if lm = 5 then 8 else 6) 0 p).2.1) G hr kw ko htp83 t83.2.1 (teP_le t83.1) t83.2.2.2.2.2.2 (fun v107 g107 o107 t107 => ?_))
        have t107 : tkR ca B n g107 v107 A (nxP B n (smP B n (if lm = 5 then 8 else 6) 0 p).2.1) := t107
        have htpn := tpR_of htp83 ht o107 (by decide)
        have wn : g107 (A + 8) = g83 (A + 8) := o107.2.1 8 (by decide) (by decide) (by decide)
        refine r_aloadR0 dX5_readUnit_110 ?_
        refine r_iload1 dX5_readUnit_111 ?_
        refine q_callV1 zm_RX5_146 dX5_readUnit_112 hr.1 (by decide) rfl (Nat.le_of_ble_eq_true rfl) (Nat.le_of_ble_eq_true rfl) (Nat.le_of_ble_eq_true rfl) (Nat.le_of_ble_eq_true rfl) (Nat.le_of_ble_eq_true rfl) (s_X5_readSum_0 (lm := lm) (u := u + (smP B n (if lm = 5 then 8 else 6) 0 p).2.2.length) G hr kw ko htpn t107 hx (by rw [o107.2.2 10 (by decide), o83.2.2 10 (by decide)]; exact hol) (by rw [o107.2.2 9 (by decide)]; exact k83.1) (by omega) (fun rs vs gs os as bs => ?_))
        have as2 : (smP B n (if lm = 5 then 8 else 6) 0 (nxP B n (smP B n (if lm = 5 then 8 else 6) 0 p).2.1)).1 = 0 → rs.toInt = 1 ∧ tkR ca B n gs vs A (smP B n (if lm = 5 then 8 else 6) 0 (nxP B n (smP B n (if lm = 5 then 8 else 6) 0 p).2.1)).2.1 ∧ okR g107 gs A (u + (smP B n (if lm = 5 then 8 else 6) 0 p).2.2.length) (smP B n (if lm = 5 then 8 else 6) 0 (nxP B n (smP B n (if lm = 5 then 8 else 6) 0 p).2.1)).2.2 := as
        have bs2 : (smP B n (if lm = 5 then 8 else 6) 0 (nxP B n (smP B n (if lm = 5 then 8 else 6) 0 p).2.1)).1 ≠ 0 → rs.toInt = 0 ∧ flR gs A (smP B n (if lm = 5 then 8 else 6) 0 (nxP B n (smP B n (if lm = 5 then 8 else 6) 0 p).2.1)).1 (smP B n (if lm = 5 then 8 else 6) 0 (nxP B n (smP B n (if lm = 5 then 8 else 6) 0 p).2.1)).2.1 := bs
        have ofs : frM A [8] [2, 3, 4, 5, 9, 11, 12] f gs := frM_tr o83 (frM_tr (frM_su o107 (by decide) (by decide)) os)
        obtain ⟨cs, ls⟩ := bs2 hq2
        refine t_ifne (t := 120) dX5_readUnit_115 (by decide) (fun h115 => False.elim (by omega)) (fun h115 => ?_)
        refine n_iconst dX5_readUnit_118 (by decide) (fun r118 e118_z => ?_)
        refine m_zret dX5_readUnit_119 rfl (by omega) (Nat.le_of_ble_eq_true rfl) (Nat.le_of_ble_eq_true rfl) ?_
        exact hQ _ _ gs ofs (fun h_z => absurd h_z hq2) (fun _ => ⟨e118_z, ls⟩)
  · have hv : cmP B n (smP B n (if lm = 5 then 8 else 6) 0) p = (smP B n (if lm = 5 then 8 else 6) 0 p) := if_pos hq
    rw [hv] at hQ
    refine r_aloadR0 dX5_readUnit_0 ?_
    refine k_gets (ko.2.1 ("NOT", 8) (List.mem_of_getElem? (i := 4) rfl)) zg_RX5_182 dX5_readUnit_1 ?_
    refine q_callV1 zm_RX5_170 dX5_readUnit_4 hr.1 (by decide) rfl (Nat.le_of_ble_eq_true rfl) (Nat.le_of_ble_eq_true rfl) (Nat.le_of_ble_eq_true rfl) (Nat.le_of_ble_eq_true rfl) (Nat.le_of_ble_eq_true rfl) (s_X5_isWord (i := 8) G hr kw ko (by decide) htk (fun r4 e4_z => ?_))
    have e4b : r4.toInt = 0 := e4_z.elim (fun h_z => absurd h_z.2 hw) (fun h_z => h_z.1)
    refine t_ifeq (t := 39) dX5_readUnit_7 (by decide) (fun h7 => ?_) (fun h7 => False.elim (by omega))
    refine r_aloadR0 dX5_readUnit_39 ?_
    refine m_getV (x := (f A 4)) zf_RX5_25 rfl dX5_readUnit_40 hr.1 (rfl) ?_
    refine n_bipush dX5_readUnit_43 (by decide) (fun r43 e43 => ?_)
    refine t_icne (t := 81) dX5_readUnit_45 (by decide) (fun h45 => ?_) (fun h45 => False.elim (by omega))
    refine r_aloadR0 dX5_readUnit_81 ?_
    refine r_iload1 dX5_readUnit_82 ?_
    refine q_callV1 zm_RX5_146 dX5_readUnit_83 hr.1 (by decide) rfl (Nat.le_of_ble_eq_true rfl) (Nat.le_of_ble_eq_true rfl) (Nat.le_of_ble_eq_true rfl) (Nat.le_of_ble_eq_true rfl) (Nat.le_of_ble_eq_true rfl) (s_X5_readSum_0 (lm := lm) (u := u) G hr kw ko htp htk hx hol hu hup (fun r83 v83 g83 o83 a83 b83 => ?_))
    have a83b : (smP B n (if lm = 5 then 8 else 6) 0 p).1 = 0 → r83.toInt = 1 ∧ tkR ca B n g83 v83 A (smP B n (if lm = 5 then 8 else 6) 0 p).2.1 ∧ okR f g83 A u (smP B n (if lm = 5 then 8 else 6) 0 p).2.2 := a83
    have b83b : (smP B n (if lm = 5 then 8 else 6) 0 p).1 ≠ 0 → r83.toInt = 0 ∧ flR g83 A (smP B n (if lm = 5 then 8 else 6) 0 p).1 (smP B n (if lm = 5 then 8 else 6) 0 p).2.1 := b83
    obtain ⟨c83, l83⟩ := b83b hq
    refine t_ifne (t := 91) dX5_readUnit_86 (by decide) (fun h86 => False.elim (by omega)) (fun h86 => ?_)
    refine n_iconst dX5_readUnit_89 (by decide) (fun r89 e89 => ?_)
    refine m_zret dX5_readUnit_90 rfl (by omega) (Nat.le_of_ble_eq_true rfl) (Nat.le_of_ble_eq_true rfl) ?_
    exact hQ _ _ g83 o83 (fun h_z => absurd h_z hq) (fun _ => ⟨e89, l83⟩)
set_option maxHeartbeats 4000000 in
set_option maxRecDepth 100000 in
theorem s_X5_readBoth_0 {g : zGT} {w : zW} {f : Nat → Nat → Int32} {j : Nat → Nat → Int64} {A tq nq : Nat} {v : Option Nat} {B : Nat → Nat} {n : Nat} {ca wa wv : Nat → Nat} {kq ta sm gq gv : Nat} {p lm u : Nat} {x : Int32} {Q : Option Value → zW → Prop} {QX : String → zW → Prop} (G : zGok g) (hr : shRd w A tq nq) (kw : kWd g wa wv kq) (ko : kWo g ca wa wv ta sm gq gv) (htp : tpR B n f A tq) (htk : tkR ca B n f v A p) (hx : x.toInt = 6) (hol : (f A 10).toInt = if lm = 5 then 1 else 0) (hu : (f A 9).toInt = (u : Nat)) (hup : u ≤ p) (hQ : ∀ (b : Int32) v2 f2_z, frM A [8] [2, 3, 4, 5, 9, 11, 12] f f2_z → ((chP B n (unP B n (if lm = 5 then 8 else 6) 0) (opA B n) p).1 = 0 → b.toInt = 1 ∧ tkR ca B n f2_z v2 A (chP B n (unP B n (if lm = 5 then 8 else 6) 0) (opA B n) p).2.1 ∧ okR f f2_z A u (chP B n (unP B n (if lm = 5 then 8 else 6) 0) (opA B n) p).2.2) → ((chP B n (unP B n (if lm = 5 then 8 else 6) 0) (opA B n) p).1 ≠ 0 → b.toInt = 0 ∧ flR f2_z A (chP B n (unP B n (if lm = 5 then 8 else 6) 0) (opA B n) p).1 (chP B n (unP B n (if lm = 5 then 8 else 6) 0) (opA B n) p).2.1) → Q (some (.int b)) (zM (wW w A v2) f2_z j)) : zC g 41 yX5_readBoth cX5_readBoth 3 (some .boolean) [.ref A, .int x] (zM (wW w A v) f j) (0, 0) Q QX := by
  refine zC_of G (by decide +kernel) (Nat.le_of_ble_eq_true rfl) ?_
  have ht := hr.2.2.2.2.2.2
  have h4 := htk.2.2.2.1
  have hpn := htk.1
  have h900 := htp.2.1
  have hgd : ∀ s, s ≤ n → gdP n true (if lm = 5 then 8 else 6) (4 + 2 * 0) s ((unP B n (if lm = 5 then 8 else 6) 0) s) := gd_un (by split <;> decide) 0
  have lp : ∀ (mz : Nat) (uu : Int32) (i : Nat) (k : Nat) (ps : Nat) (c : List Nat) (f2_z : Nat → Nat → Int32) (vv : Option Nat), uu.toInt = (i : Nat) → frM A [8] [2, 3, 4, 5, 9, 11, 12] f f2_z → tkR ca B n f2_z vv A ps → okR f f2_z A u c → p + i < ps → ps ≤ n → c.length + p ≤ ps → n ≤ k + ps → lpP B n (unP B n (if lm = 5 then 8 else 6) 0) (opA B n) k (0, ps, c) = chP B n (unP B n (if lm = 5 then 8 else 6) 0) (opA B n) p → k < mz → zR (zV g 41 yX5_readBoth 3 (some .boolean) (0, 0) Q QX) cX5_readBoth yX5_readBoth.cls 12 [some (.ref A), some (.int x), some (.int uu)] [] (zM (wW w A vv) f2_z j) (0, 0) := by
    intro mz
    induction mz with
    | zero =>
      intro uu i k ps c f2_z vv hui ofr htk2 hok hpi hps hcl hnk hR hmz
      exact absurd hmz (Nat.not_lt_zero _)
    | succ mz ih =>
      intro uu i k ps c f2_z vv hui ofr htk2 hok hpi hps hcl hnk hR hmz
      have htp2 := tpR_of htp ht ofr (by decide)
      have h1 := htp2.1
      have htk4 := htk2.2.2.2.1
      have hi9 : i < n := by omega
      by_cases hc_z : isWd B n ps 7 = true
      · have hop : (opA B n) ps = 2001 := if_pos hc_z
        have hop0 : (opA B n) ps ≠ 0 := by rw [hop]; decide
        have hln := tk_lt (B := B) (n := n) (s := ps) (by rw [(isWd_tk hc_z).1]; decide)
        obtain ⟨k2_z, rfl⟩ : ∃ k2_z, k = k2_z + 1 := ⟨k - 1, by omega⟩
        have hnx := nxP_gt (B := B) hln
        have gq := hgd _ hnx.2
        by_cases hq : ((unP B n (if lm = 5 then 8 else 6) 0) (nxP B n ps)).1 = 0
        · obtain ⟨y1, y2, y3, y4⟩ := gq.1 hq
          refine r_iload2 dX5_readBoth_12 ?_
          refine r_aloadR0 dX5_readBoth_13 ?_
          refine m_getV (x := (f2_z A 1)) zf_RX5_15 rfl dX5_readBoth_14 hr.1 (rfl) ?_
          refine t_icge (t := 57) dX5_readBoth_17 (by decide) (fun h17 => False.elim (by omega)) (fun h17 => ?_)
          refine r_aloadR0 dX5_readBoth_20 ?_
          refine k_gets (ko.2.1 ("AND", 7) (List.mem_of_getElem? (i := 7) rfl)) zg_RX5_179 dX5_readBoth_21 ?_
          refine q_callV1 zm_RX5_170 dX5_readBoth_24 hr.1 (by decide) rfl (Nat.le_of_ble_eq_true rfl) (Nat.le_of_ble_eq_true rfl) (Nat.le_of_ble_eq_true rfl) (Nat.le_of_ble_eq_true rfl) (Nat.le_of_ble_eq_true rfl) (s_X5_isWord (i := 7) G hr kw ko (by decide) htk2 (fun r24 e24_z => ?_))
          have e24b : r24.toInt = 1 := e24_z.elim (fun h_z => h_z.1) (fun h_z => absurd hc_z h_z.2)
          refine t_ifeq (t := 57) dX5_readBoth_27 (by decide) (fun h27 => False.elim (by omega)) (fun h27 => ?_)
          refine r_aloadR0 dX5_readBoth_30 ?_
          refine q_callV0 zm_RX5_73 dX5_readBoth_31 hr.1 (by decide) rfl (Nat.le_of_ble_eq_true rfl) (Nat.le_of_ble_eq_true rfl) (Nat.le_of_ble_eq_true rfl) (Nat.le_of_ble_eq_true rfl) (Nat.le_of_ble_eq_true rfl) (s_X5_next (p := teP B n ps) G hr kw ko htp2 htk2.2.1 (teP_le htk2.1) htk2.2.2.2.2.2.2 (fun v31 g31 o31 t31 => ?_))
          have t31 : tkR ca B n g31 v31 A (nxP B n ps) := t31
          have htpn := tpR_of htp2 ht o31 (by decide)
          have wn : g31 (A + 8) = f2_z (A + 8) := o31.2.1 8 (by decide) (by decide) (by decide)
          refine r_aloadR0 dX5_readBoth_34 ?_
          refine r_iload1 dX5_readBoth_35 ?_
          refine q_callV1 zm_RX5_176 dX5_readBoth_36 hr.1 (by decide) rfl (Nat.le_of_ble_eq_true rfl) (Nat.le_of_ble_eq_true rfl) (Nat.le_of_ble_eq_true rfl) (Nat.le_of_ble_eq_true rfl) (Nat.le_of_ble_eq_true rfl) (s_X5_readUnit_0 (lm := lm) (u := u + c.length) G hr kw ko htpn t31 hx (by rw [o31.2.2 10 (by decide), ofr.2.2 10 (by decide)]; exact hol) (by rw [o31.2.2 9 (by decide)]; exact hok.1) (by omega) (fun rs vs gs os as bs => ?_))
          have as2 : ((unP B n (if lm = 5 then 8 else 6) 0) (nxP B n ps)).1 = 0 → rs.toInt = 1 ∧ tkR ca B n gs vs A ((unP B n (if lm = 5 then 8 else 6) 0) (nxP B n ps)).2.1 ∧ okR g31 gs A (u + c.length) ((unP B n (if lm = 5 then 8 else 6) 0) (nxP B n ps)).2.2 := as
          have bs2 : ((unP B n (if lm = 5 then 8 else 6) 0) (nxP B n ps)).1 ≠ 0 → rs.toInt = 0 ∧ flR gs A ((unP B n (if lm = 5 then 8 else 6) 0) (nxP B n ps)).1 ((unP B n (if lm = 5 then 8 else 6) 0) (nxP B n ps)).2.1 := bs
          have ofs : frM A [8] [2, 3, 4, 5, 9, 11, 12] f gs := frM_tr ofr (frM_tr (frM_su o31 (by decide) (by decide)) os)
          obtain ⟨cs, ts, ks⟩ := as2 hq
          refine t_ifne (t := 44) dX5_readBoth_39 (by decide) (fun h39 => ?_) (fun h39 => False.elim (by omega))
          refine r_aloadR0 dX5_readBoth_44 ?_
          refine n_sipush dX5_readBoth_45 (by decide) (fun r45 e45 => ?_)
          refine q_callV1 zm_RX5_173 dX5_readBoth_48 hr.1 (by decide) rfl (Nat.le_of_ble_eq_true rfl) (Nat.le_of_ble_eq_true rfl) (Nat.le_of_ble_eq_true rfl) (Nat.le_of_ble_eq_true rfl) (Nat.le_of_ble_eq_true rfl) (s_X5_emit (u := u + c.length + ((unP B n (if lm = 5 then 8 else 6) 0) (nxP B n ps)).2.2.length) G hr ks.1 (by omega) (fun g48 o48 a48 b48 c48 => ?_))
          refine n_iinc2 dX5_readBoth_51 (by decide) rfl (by omega) (fun r51 e51 => ?_)
          refine r_goto (t := 12) dX5_readBoth_54 (by decide) ?_
          refine ih _ (i + 1) k2_z ((unP B n (if lm = 5 then 8 else 6) 0) (nxP B n ps)).2.1 (c ++ ((unP B n (if lm = 5 then 8 else 6) 0) (nxP B n ps)).2.2 ++ [(opA B n) ps]) g48 _ (by omega) (frM_tr ofs (frM_su o48 (by decide) (by decide))) (tkR_of ts o48 (by decide) (by decide) (by decide) (by decide)) (okR_ap (okR_ap hok (okR_cg ks wn rfl rfl)) ?_) (by omega) y2 ?_ (by omega) ?_ (by omega)
          · rw [List.length_append, ← Nat.add_assoc, hop]
            exact okR_one a48 b48 c48 (by omega)
          · rw [List.length_append, List.length_append, List.length_singleton]
            omega
          · exact (lpP_on (r := (0, ps, c)) rfl hop0 hq).symm.trans hR
        · have hv : ((unP B n (if lm = 5 then 8 else 6) 0) (nxP B n ps)) = chP B n (unP B n (if lm = 5 then 8 else 6) 0) (opA B n) p := (lpP_sub (k := k2_z) (r := (0, ps, c)) rfl hop0 hq).symm.trans hR
          refine r_iload2 dX5_readBoth_12 ?_
          refine r_aloadR0 dX5_readBoth_13 ?_
          refine m_getV (x := (f2_z A 1)) zf_RX5_15 rfl dX5_readBoth_14 hr.1 (rfl) ?_
          refine t_icge (t := 57) dX5_readBoth_17 (by decide) (fun h17 => False.elim (by omega)) (fun h17 => ?_)
          refine r_aloadR0 dX5_readBoth_20 ?_
          refine k_gets (ko.2.1 ("AND", 7) (List.mem_of_getElem? (i := 7) rfl)) zg_RX5_179 dX5_readBoth_21 ?_
          refine q_callV1 zm_RX5_170 dX5_readBoth_24 hr.1 (by decide) rfl (Nat.le_of_ble_eq_true rfl) (Nat.le_of_ble_eq_true rfl) (Nat.le_of_ble_eq_true rfl) (Nat.le_of_ble_eq_true rfl) (Nat.le_of_ble_eq_true rfl) (s_X5_isWord (i := 7) G hr kw ko (by decide) htk2 (fun r24 e24_z => ?_))
          have e24b : r24.toInt = 1 := e24_z.elim (fun h_z => h_z.1) (fun h_z => absurd hc_z h_z.2)
          refine t_ifeq (t := 57) dX5_readBoth_27 (by decide) (fun h27 => False.elim (by omega)) (fun h27 => ?_)
          refine r_aloadR0 dX5_readBoth_30 ?_
          refine q_callV0 zm_RX5_73 dX5_readBoth_31 hr.1 (by decide) rfl (Nat.le_of_ble_eq_true rfl) (Nat.le_of_ble_eq_true rfl) (Nat.le_of_ble_eq_true rfl) (Nat.le_of_ble_eq_true rfl) (Nat.le_of_ble_eq_true rfl) (s_X5_next (p := teP B n ps) G hr kw ko htp2 htk2.2.1 (teP_le htk2.1) htk2.2.2.2.2.2.2 (fun v31 g31 o31 t31 => ?_))
          have t31 : tkR ca B n g31 v31 A (nxP B n ps) := t31
          have htpn := tpR_of htp2 ht o31 (by decide)
          have wn : g31 (A + 8) = f2_z (A + 8) := o31.2.1 8 (by decide) (by decide) (by decide)
          refine r_aloadR0 dX5_readBoth_34 ?_
          refine r_iload1 dX5_readBoth_35 ?_
          refine q_callV1 zm_RX5_176 dX5_readBoth_36 hr.1 (by decide) rfl (Nat.le_of_ble_eq_true rfl) (Nat.le_of_ble_eq_true rfl) (Nat.le_of_ble_eq_true rfl) (Nat.le_of_ble_eq_true rfl) (Nat.le_of_ble_eq_true rfl) (s_X5_readUnit_0 (lm := lm) (u := u + c.length) G hr kw ko htpn t31 hx (by rw [o31.2.2 10 (by decide), ofr.2.2 10 (by decide)]; exact hol) (by rw [o31.2.2 9 (by decide)]; exact hok.1) (by omega) (fun rs vs gs os as bs => ?_))
          have as2 : ((unP B n (if lm = 5 then 8 else 6) 0) (nxP B n ps)).1 = 0 → rs.toInt = 1 ∧ tkR ca B n gs vs A ((unP B n (if lm = 5 then 8 else 6) 0) (nxP B n ps)).2.1 ∧ okR g31 gs A (u + c.length) ((unP B n (if lm = 5 then 8 else 6) 0) (nxP B n ps)).2.2 := as
          have bs2 : ((unP B n (if lm = 5 then 8 else 6) 0) (nxP B n ps)).1 ≠ 0 → rs.toInt = 0 ∧ flR gs A ((unP B n (if lm = 5 then 8 else 6) 0) (nxP B n ps)).1 ((unP B n (if lm = 5 then 8 else 6) 0) (nxP B n ps)).2.1 := bs
          have ofs : frM A [8] [2, 3, 4, 5, 9, 11, 12] f gs := frM_tr ofr (frM_tr (frM_su o31 (by decide) (by decide)) os)
          obtain ⟨cs, ls⟩ := bs2 hq
          refine t_ifne (t := 44) dX5_readBoth_39 (by decide) (fun h39 => False.elim (by omega)) (fun h39 => ?_)
          refine n_iconst dX5_readBoth_42 (by decide) (fun r42 e42_z => ?_)
          refine m_zret dX5_readBoth_43 rfl (by omega) (Nat.le_of_ble_eq_true rfl) (Nat.le_of_ble_eq_true rfl) ?_
          rw [← hv] at hQ
          exact hQ _ _ gs ofs (fun h_z => absurd h_z hq) (fun _ => ⟨e42_z, ls⟩)
      have hop : (opA B n) ps = 0 := if_neg hc_z
      have hv := (lpP_end (B := B) (n := n) (k := k) (sub := (unP B n (if lm = 5 then 8 else 6) 0)) (r := (0, ps, c)) hop).symm.trans hR
      refine r_iload2 dX5_readBoth_12 ?_
      refine r_aloadR0 dX5_readBoth_13 ?_
      refine m_getV (x := (f2_z A 1)) zf_RX5_15 rfl dX5_readBoth_14 hr.1 (rfl) ?_
      refine t_icge (t := 57) dX5_readBoth_17 (by decide) (fun h17 => False.elim (by omega)) (fun h17 => ?_)
      refine r_aloadR0 dX5_readBoth_20 ?_
      refine k_gets (ko.2.1 ("AND", 7) (List.mem_of_getElem? (i := 7) rfl)) zg_RX5_179 dX5_readBoth_21 ?_
      refine q_callV1 zm_RX5_170 dX5_readBoth_24 hr.1 (by decide) rfl (Nat.le_of_ble_eq_true rfl) (Nat.le_of_ble_eq_true rfl) (Nat.le_of_ble_eq_true rfl) (Nat.le_of_ble_eq_true rfl) (Nat.le_of_ble_eq_true rfl) (s_X5_isWord (i := 7) G hr kw ko (by decide) htk2 (fun r24 e24_z => ?_))
      have e24b : r24.toInt = 0 := e24_z.elim (fun h_z => absurd h_z.2 hc_z) (fun h_z => h_z.1)
      refine t_ifeq (t := 57) dX5_readBoth_27 (by decide) (fun h27 => ?_) (fun h27 => False.elim (by omega))
      refine n_iconst dX5_readBoth_57 (by decide) (fun r57 e57 => ?_)
      refine m_zret dX5_readBoth_58 rfl (by omega) (Nat.le_of_ble_eq_true rfl) (Nat.le_of_ble_eq_true rfl) ?_
      rw [← hv] at hQ
      exact hQ _ _ f2_z ofr (fun _ => ⟨e57, htk2, hok⟩) (fun h_z => absurd rfl h_z)
  have gp := hgd p hpn
  by_cases hq : ((unP B n (if lm = 5 then 8 else 6) 0) p).1 = 0
  · obtain ⟨y1, y2, y3, y4⟩ := gp.1 hq
    have hz : ((unP B n (if lm = 5 then 8 else 6) 0) p) = (0, ((unP B n (if lm = 5 then 8 else 6) 0) p).2.1, ((unP B n (if lm = 5 then 8 else 6) 0) p).2.2) := Prod.ext hq rfl
    refine r_aloadR0 dX5_readBoth_0 ?_
    refine r_iload1 dX5_readBoth_1 ?_
    refine q_callV1 zm_RX5_176 dX5_readBoth_2 hr.1 (by decide) rfl (Nat.le_of_ble_eq_true rfl) (Nat.le_of_ble_eq_true rfl) (Nat.le_of_ble_eq_true rfl) (Nat.le_of_ble_eq_true rfl) (Nat.le_of_ble_eq_true rfl) (s_X5_readUnit_0 G hr kw ko htp htk hx hol hu hup (fun r2 v2 g2 o2 a2 b2 => ?_))
    have a2b : ((unP B n (if lm = 5 then 8 else 6) 0) p).1 = 0 → r2.toInt = 1 ∧ tkR ca B n g2 v2 A ((unP B n (if lm = 5 then 8 else 6) 0) p).2.1 ∧ okR f g2 A u ((unP B n (if lm = 5 then 8 else 6) 0) p).2.2 := a2
    have b2b : ((unP B n (if lm = 5 then 8 else 6) 0) p).1 ≠ 0 → r2.toInt = 0 ∧ flR g2 A ((unP B n (if lm = 5 then 8 else 6) 0) p).1 ((unP B n (if lm = 5 then 8 else 6) 0) p).2.1 := b2
    obtain ⟨c2_z, t2, k2_z⟩ := a2b hq
    refine t_ifne (t := 10) dX5_readBoth_5 (by decide) (fun h5 => ?_) (fun h5 => False.elim (by omega))
    refine n_iconst dX5_readBoth_10 (by decide) (fun r10 e10_z => ?_)
    refine r_istore2 dX5_readBoth_11 rfl ?_
    exact lp (n + 1) _ 0 n ((unP B n (if lm = 5 then 8 else 6) 0) p).2.1 ((unP B n (if lm = 5 then 8 else 6) 0) p).2.2 g2 _ (by omega) o2 t2 k2_z (by omega) y2 y3 (by omega) (by rw [← hz]; rfl) (Nat.lt_succ_self n)
  · have hv : chP B n (unP B n (if lm = 5 then 8 else 6) 0) (opA B n) p = ((unP B n (if lm = 5 then 8 else 6) 0) p) := lpP_bad hq
    rw [hv] at hQ
    refine r_aloadR0 dX5_readBoth_0 ?_
    refine r_iload1 dX5_readBoth_1 ?_
    refine q_callV1 zm_RX5_176 dX5_readBoth_2 hr.1 (by decide) rfl (Nat.le_of_ble_eq_true rfl) (Nat.le_of_ble_eq_true rfl) (Nat.le_of_ble_eq_true rfl) (Nat.le_of_ble_eq_true rfl) (Nat.le_of_ble_eq_true rfl) (s_X5_readUnit_0 G hr kw ko htp htk hx hol hu hup (fun r2 v2 g2 o2 a2 b2 => ?_))
    have a2b : ((unP B n (if lm = 5 then 8 else 6) 0) p).1 = 0 → r2.toInt = 1 ∧ tkR ca B n g2 v2 A ((unP B n (if lm = 5 then 8 else 6) 0) p).2.1 ∧ okR f g2 A u ((unP B n (if lm = 5 then 8 else 6) 0) p).2.2 := a2
    have b2b : ((unP B n (if lm = 5 then 8 else 6) 0) p).1 ≠ 0 → r2.toInt = 0 ∧ flR g2 A ((unP B n (if lm = 5 then 8 else 6) 0) p).1 ((unP B n (if lm = 5 then 8 else 6) 0) p).2.1 := b2
    obtain ⟨c2_z, l2⟩ := b2b hq
    refine t_ifne (t := 10) dX5_readBoth_5 (by decide) (fun h5 => False.elim (by omega)) (fun h5 => ?_)
    refine n_iconst dX5_readBoth_8 (by decide) (fun r8 e8 => ?_)
    refine m_zret dX5_readBoth_9 rfl (by omega) (Nat.le_of_ble_eq_true rfl) (Nat.le_of_ble_eq_true rfl) ?_
    exact hQ _ _ g2 o2 (fun h_z => absurd h_z hq) (fun _ => ⟨e8, l2⟩)
set_option maxHeartbeats 4000000 in
set_option maxRecDepth 100000 in
theorem s_X5_readTruth_0 {g : zGT} {w : zW} {f : Nat → Nat → Int32} {j : Nat → Nat → Int64} {A tq nq : Nat} {v : Option Nat} {B : Nat → Nat} {n : Nat} {ca wa wv : Nat → Nat} {kq ta sm gq gv : Nat} {p lm u : Nat} {x : Int32} {Q : Option Value → zW → Prop} {QX : String → zW → Prop} (G : zGok g) (hr : shRd w A tq nq) (kw : kWd g wa wv kq) (ko : kWo g ca wa wv ta sm gq gv) (htp : tpR B n f A tq) (htk : tkR ca B n f v A p) (hx : x.toInt = 6) (hol : (f A 10).toInt = if lm = 5 then 1 else 0) (hu : (f A 9).toInt = (u : Nat)) (hup : u ≤ p) (hQ : ∀ (b : Int32) v2 f2_z, frM A [8] [2, 3, 4, 5, 9, 11, 12] f f2_z → ((chP B n (chP B n (unP B n (if lm = 5 then 8 else 6) 0) (opA B n)) (opO B n) p).1 = 0 → b.toInt = 1 ∧ tkR ca B n f2_z v2 A (chP B n (chP B n (unP B n (if lm = 5 then 8 else 6) 0) (opA B n)) (opO B n) p).2.1 ∧ okR f f2_z A u (chP B n (chP B n (unP B n (if lm = 5 then 8 else 6) 0) (opA B n)) (opO B n) p).2.2) → ((chP B n (chP B n (unP B n (if lm = 5 then 8 else 6) 0) (opA B n)) (opO B n) p).1 ≠ 0 → b.toInt = 0 ∧ flR f2_z A (chP B n (chP B n (unP B n (if lm = 5 then 8 else 6) 0) (opA B n)) (opO B n) p).1 (chP B n (chP B n (unP B n (if lm = 5 then 8 else 6) 0) (opA B n)) (opO B n) p).2.1) → Q (some (.int b)) (zM (wW w A v2) f2_z j)) : zC g 42 yX5_readTruth cX5_readTruth 3 (some .boolean) [.ref A, .int x] (zM (wW w A v) f j) (0, 0) Q QX := by
  refine zC_of G (by decide +kernel) (Nat.le_of_ble_eq_true rfl) ?_
  have ht := hr.2.2.2.2.2.2
  have h4 := htk.2.2.2.1
  have hpn := htk.1
  have h900 := htp.2.1
  have hgd : ∀ s, s ≤ n → gdP n true (if lm = 5 then 8 else 6) (4 + 2 * 0 + 1) s ((chP B n (unP B n (if lm = 5 then 8 else 6) 0) (opA B n)) s) := fun s hs9 => gd_ch (gd_un (by split <;> decide) 0) hop_A hs9
  have lp : ∀ (mz : Nat) (uu : Int32) (i : Nat) (k : Nat) (ps : Nat) (c : List Nat) (f2_z : Nat → Nat → Int32) (vv : Option Nat), uu.toInt = (i : Nat) → frM A [8] [2, 3, 4, 5, 9, 11, 12] f f2_z → tkR ca B n f2_z vv A ps → okR f f2_z A u c → p + i < ps → ps ≤ n → c.length + p ≤ ps → n ≤ k + ps → lpP B n (chP B n (unP B n (if lm = 5 then 8 else 6) 0) (opA B n)) (opO B n) k (0, ps, c) = chP B n (chP B n (unP B n (if lm = 5 then 8 else 6) 0) (opA B n)) (opO B n) p → k < mz → zR (zV g 42 yX5_readTruth 3 (some .boolean) (0, 0) Q QX) cX5_readTruth yX5_readTruth.cls 12 [some (.ref A), some (.int x), some (.int uu)] [] (zM (wW w A vv) f2_z j) (0, 0) := by
    intro mz
    induction mz with
    | zero =>
      intro uu i k ps c f2_z vv hui ofr htk2 hok hpi hps hcl hnk hR hmz
      exact absurd hmz (Nat.not_lt_zero _)
    | succ mz ih =>
      intro uu i k ps c f2_z vv hui ofr htk2 hok hpi hps hcl hnk hR hmz
      have htp2 := tpR_of htp ht ofr (by decide)
      have h1 := htp2.1
      have htk4 := htk2.2.2.2.1
      have hi9 : i < n := by omega
      by_cases hc_z : isWd B n ps 6 = true
      · have hop : (opO B n) ps = 2002 := if_pos hc_z
        have hop0 : (opO B n) ps ≠ 0 := by rw [hop]; decide
        have hln := tk_lt (B := B) (n := n) (s := ps) (by rw [(isWd_tk hc_z).1]; decide)
        obtain ⟨k2_z, rfl⟩ : ∃ k2_z, k = k2_z + 1 := ⟨k - 1, by omega⟩
        have hnx := nxP_gt (B := B) hln
        have gq := hgd _ hnx.2
        by_cases hq : ((chP B n (unP B n (if lm = 5 then 8 else 6) 0) (opA B n)) (nxP B n ps)).1 = 0
        · obtain ⟨y1, y2, y3, y4⟩ := gq.1 hq
          refine r_iload2 dX5_readTruth_12 ?_
          refine r_aloadR0 dX5_readTruth_13 ?_
          refine m_getV (x := (f2_z A 1)) zf_RX5_15 rfl dX5_readTruth_14 hr.1 (rfl) ?_
          refine t_icge (t := 57) dX5_readTruth_17 (by decide) (fun h17 => False.elim (by omega)) (fun h17 => ?_)
          refine r_aloadR0 dX5_readTruth_20 ?_
          refine k_gets (ko.2.1 ("OR", 6) (List.mem_of_getElem? (i := 8) rfl)) zg_RX5_167 dX5_readTruth_21 ?_
          refine q_callV1 zm_RX5_170 dX5_readTruth_24 hr.1 (by decide) rfl (Nat.le_of_ble_eq_true rfl) (Nat.le_of_ble_eq_true rfl) (Nat.le_of_ble_eq_true rfl) (Nat.le_of_ble_eq_true rfl) (Nat.le_of_ble_eq_true rfl) (s_X5_isWord (i := 6) G hr kw ko (by decide) htk2 (fun r24 e24_z => ?_))
          have e24b : r24.toInt = 1 := e24_z.elim (fun h_z => h_z.1) (fun h_z => absurd hc_z h_z.2)
          refine t_ifeq (t := 57) dX5_readTruth_27 (by decide) (fun h27 => False.elim (by omega)) (fun h27 => ?_)
          refine r_aloadR0 dX5_readTruth_30 ?_
          refine q_callV0 zm_RX5_73 dX5_readTruth_31 hr.1 (by decide) rfl (Nat.le_of_ble_eq_true rfl) (Nat.le_of_ble_eq_true rfl) (Nat.le_of_ble_eq_true rfl) (Nat.le_of_ble_eq_true rfl) (Nat.le_of_ble_eq_true rfl) (s_X5_next (p := teP B n ps) G hr kw ko htp2 htk2.2.1 (teP_le htk2.1) htk2.2.2.2.2.2.2 (fun v31 g31 o31 t31 => ?_))
          have t31 : tkR ca B n g31 v31 A (nxP B n ps) := t31
          have htpn := tpR_of htp2 ht o31 (by decide)
          have wn : g31 (A + 8) = f2_z (A + 8) := o31.2.1 8 (by decide) (by decide) (by decide)
          refine r_aloadR0 dX5_readTruth_34 ?_
          refine r_iload1 dX5_readTruth_35 ?_
          refine q_callV1 zm_RX5_164 dX5_readTruth_36 hr.1 (by decide) rfl (Nat.le_of_ble_eq_true rfl) (Nat.le_of_ble_eq_true rfl) (Nat.le_of_ble_eq_true rfl) (Nat.le_of_ble_eq_true rfl) (Nat.le_of_ble_eq_true rfl) (s_X5_readBoth_0 (lm := lm) (u := u + c.length) G hr kw ko htpn t31 hx (by rw [o31.2.2 10 (by decide), ofr.2.2 10 (by decide)]; exact hol) (by rw [o31.2.2 9 (by decide)]; exact hok.1) (by omega) (fun rs vs gs os as bs => ?_))
          have as2 : ((chP B n (unP B n (if lm = 5 then 8 else 6) 0) (opA B n)) (nxP B n ps)).1 = 0 → rs.toInt = 1 ∧ tkR ca B n gs vs A ((chP B n (unP B n (if lm = 5 then 8 else 6) 0) (opA B n)) (nxP B n ps)).2.1 ∧ okR g31 gs A (u + c.length) ((chP B n (unP B n (if lm = 5 then 8 else 6) 0) (opA B n)) (nxP B n ps)).2.2 := as
          have bs2 : ((chP B n (unP B n (if lm = 5 then 8 else 6) 0) (opA B n)) (nxP B n ps)).1 ≠ 0 → rs.toInt = 0 ∧ flR gs A ((chP B n (unP B n (if lm = 5 then 8 else 6) 0) (opA B n)) (nxP B n ps)).1 ((chP B n (unP B n (if lm = 5 then 8 else 6) 0) (opA B n)) (nxP B n ps)).2.1 := bs
          have ofs : frM A [8] [2, 3, 4, 5, 9, 11, 12] f gs := frM_tr ofr (frM_tr (frM_su o31 (by decide) (by decide)) os)
          obtain ⟨cs, ts, ks⟩ := as2 hq
          refine t_ifne (t := 44) dX5_readTruth_39 (by decide) (fun h39 => ?_) (fun h39 => False.elim (by omega))
          refine r_aloadR0 dX5_readTruth_44 ?_
          refine n_sipush dX5_readTruth_45 (by decide) (fun r45 e45 => ?_)
          refine q_callV1 zm_RX5_173 dX5_readTruth_48 hr.1 (by decide) rfl (Nat.le_of_ble_eq_true rfl) (Nat.le_of_ble_eq_true rfl) (Nat.le_of_ble_eq_true rfl) (Nat.le_of_ble_eq_true rfl) (Nat.le_of_ble_eq_true rfl) (s_X5_emit (u := u + c.length + ((chP B n (unP B n (if lm = 5 then 8 else 6) 0) (opA B n)) (nxP B n ps)).2.2.length) G hr ks.1 (by omega) (fun g48 o48 a48 b48 c48 => ?_))
          refine n_iinc2 dX5_readTruth_51 (by decide) rfl (by omega) (fun r51 e51 => ?_)
          refine r_goto (t := 12) dX5_readTruth_54 (by decide) ?_
          refine ih _ (i + 1) k2_z ((chP B n (unP B n (if lm = 5 then 8 else 6) 0) (opA B n)) (nxP B n ps)).2.1 (c ++ ((chP B n (unP B n (if lm = 5 then 8 else 6) 0) (opA B n)) (nxP B n ps)).2.2 ++ [(opO B n) ps]) g48 _ (by omega) (frM_tr ofs (frM_su o48 (by decide) (by decide))) (tkR_of ts o48 (by decide) (by decide) (by decide) (by decide)) (okR_ap (okR_ap hok (okR_cg ks wn rfl rfl)) ?_) (by omega) y2 ?_ (by omega) ?_ (by omega)
          · rw [List.length_append, ← Nat.add_assoc, hop]
            exact okR_one a48 b48 c48 (by omega)
          · rw [List.length_append, List.length_append, List.length_singleton]
            omega
          · exact (lpP_on (r := (0, ps, c)) rfl hop0 hq).symm.trans hR
        · have hv : ((chP B n (unP B n (if lm = 5 then 8 else 6) 0) (opA B n)) (nxP B n ps)) = chP B n (chP B n (unP B n (if lm = 5 then 8 else 6) 0) (opA B n)) (opO B n) p := (lpP_sub (k := k2_z) (r := (0, ps, c)) rfl hop0 hq).symm.trans hR
          refine r_iload2 dX5_readTruth_12 ?_
          refine r_aloadR0 dX5_readTruth_13 ?_
          refine m_getV (x := (f2_z A 1)) zf_RX5_15 rfl dX5_readTruth_14 hr.1 (rfl) ?_
          refine t_icge (t := 57) dX5_readTruth_17 (by decide) (fun h17 => False.elim (by omega)) (fun h17 => ?_)
          refine r_aloadR0 dX5_readTruth_20 ?_
          refine k_gets (ko.2.1 ("OR", 6) (List.mem_of_getElem? (i := 8) rfl)) zg_RX5_167 dX5_readTruth_21 ?_
          refine q_callV1 zm_RX5_170 dX5_readTruth_24 hr.1 (by decide) rfl (Nat.le_of_ble_eq_true rfl) (Nat.le_of_ble_eq_true rfl) (Nat.le_of_ble_eq_true rfl) (Nat.le_of_ble_eq_true rfl) (Nat.le_of_ble_eq_true rfl) (s_X5_isWord (i := 6) G hr kw ko (by decide) htk2 (fun r24 e24_z => ?_))
          have e24b : r24.toInt = 1 := e24_z.elim (fun h_z => h_z.1) (fun h_z => absurd hc_z h_z.2)
          refine t_ifeq (t := 57) dX5_readTruth_27 (by decide) (fun h27 => False.elim (by omega)) (fun h27 => ?_)
          refine r_aloadR0 dX5_readTruth_30 ?_
          refine q_callV0 zm_RX5_73 dX5_readTruth_31 hr.1 (by decide) rfl (Nat.le_of_ble_eq_true rfl) (Nat.le_of_ble_eq_true rfl) (Nat.le_of_ble_eq_true rfl) (Nat.le_of_ble_eq_true rfl) (Nat.le_of_ble_eq_true rfl) (s_X5_next (p := teP B n ps) G hr kw ko htp2 htk2.2.1 (teP_le htk2.1) htk2.2.2.2.2.2.2 (fun v31 g31 o31 t31 => ?_))
          have t31 : tkR ca B n g31 v31 A (nxP B n ps) := t31
          have htpn := tpR_of htp2 ht o31 (by decide)
          have wn : g31 (A + 8) = f2_z (A + 8) := o31.2.1 8 (by decide) (by decide) (by decide)
          refine r_aloadR0 dX5_readTruth_34 ?_
          refine r_iload1 dX5_readTruth_35 ?_
          refine q_callV1 zm_RX5_164 dX5_readTruth_36 hr.1 (by decide) rfl (Nat.le_of_ble_eq_true rfl) (Nat.le_of_ble_eq_true rfl) (Nat.le_of_ble_eq_true rfl) (Nat.le_of_ble_eq_true rfl) (Nat.le_of_ble_eq_true rfl) (s_X5_readBoth_0 (lm := lm) (u := u + c.length) G hr kw ko htpn t31 hx (by rw [o31.2.2 10 (by decide), ofr.2.2 10 (by decide)]; exact hol) (by rw [o31.2.2 9 (by decide)]; exact hok.1) (by omega) (fun rs vs gs os as bs => ?_))
          have as2 : ((chP B n (unP B n (if lm = 5 then 8 else 6) 0) (opA B n)) (nxP B n ps)).1 = 0 → rs.toInt = 1 ∧ tkR ca B n gs vs A ((chP B n (unP B n (if lm = 5 then 8 else 6) 0) (opA B n)) (nxP B n ps)).2.1 ∧ okR g31 gs A (u + c.length) ((chP B n (unP B n (if lm = 5 then 8 else 6) 0) (opA B n)) (nxP B n ps)).2.2 := as
          have bs2 : ((chP B n (unP B n (if lm = 5 then 8 else 6) 0) (opA B n)) (nxP B n ps)).1 ≠ 0 → rs.toInt = 0 ∧ flR gs A ((chP B n (unP B n (if lm = 5 then 8 else 6) 0) (opA B n)) (nxP B n ps)).1 ((chP B n (unP B n (if lm = 5 then 8 else 6) 0) (opA B n)) (nxP B n ps)).2.1 := bs
          have ofs : frM A [8] [2, 3, 4, 5, 9, 11, 12] f gs := frM_tr ofr (frM_tr (frM_su o31 (by decide) (by decide)) os)
          obtain ⟨cs, ls⟩ := bs2 hq
          refine t_ifne (t := 44) dX5_readTruth_39 (by decide) (fun h39 => False.elim (by omega)) (fun h39 => ?_)
          refine n_iconst dX5_readTruth_42 (by decide) (fun r42 e42_z => ?_)
          refine m_zret dX5_readTruth_43 rfl (by omega) (Nat.le_of_ble_eq_true rfl) (Nat.le_of_ble_eq_true rfl) ?_
          rw [← hv] at hQ
          exact hQ _ _ gs ofs (fun h_z => absurd h_z hq) (fun _ => ⟨e42_z, ls⟩)
      have hop : (opO B n) ps = 0 := if_neg hc_z
      have hv := (lpP_end (B := B) (n := n) (k := k) (sub := (chP B n (unP B n (if lm = 5 then 8 else 6) 0) (opA B n))) (r := (0, ps, c)) hop).symm.trans hR
      refine r_iload2 dX5_readTruth_12 ?_
      refine r_aloadR0 dX5_readTruth_13 ?_
      refine m_getV (x := (f2_z A 1)) zf_RX5_15 rfl dX5_readTruth_14 hr.1 (rfl) ?_
      refine t_icge (t := 57) dX5_readTruth_17 (by decide) (fun h17 => False.elim (by omega)) (fun h17 => ?_)
      refine r_aloadR0 dX5_readTruth_20 ?_
      refine k_gets (ko.2.1 ("OR", 6) (List.mem_of_getElem? (i := 8) rfl)) zg_RX5_167 dX5_readTruth_21 ?_
      refine q_callV1 zm_RX5_170 dX5_readTruth_24 hr.1 (by decide) rfl (Nat.le_of_ble_eq_true rfl) (Nat.le_of_ble_eq_true rfl) (Nat.le_of_ble_eq_true rfl) (Nat.le_of_ble_eq_true rfl) (Nat.le_of_ble_eq_true rfl) (s_X5_isWord (i := 6) G hr kw ko (by decide) htk2 (fun r24 e24_z => ?_))
      have e24b : r24.toInt = 0 := e24_z.elim (fun h_z => absurd h_z.2 hc_z) (fun h_z => h_z.1)
      refine t_ifeq (t := 57) dX5_readTruth_27 (by decide) (fun h27 => ?_) (fun h27 => False.elim (by omega))
      refine n_iconst dX5_readTruth_57 (by decide) (fun r57 e57 => ?_)
      refine m_zret dX5_readTruth_58 rfl (by omega) (Nat.le_of_ble_eq_true rfl) (Nat.le_of_ble_eq_true rfl) ?_
      rw [← hv] at hQ
      exact hQ _ _ f2_z ofr (fun _ => ⟨e57, htk2, hok⟩) (fun h_z => absurd rfl h_z)
  have gp := hgd p hpn
  by_cases hq : ((chP B n (unP B n (if lm = 5 then 8 else 6) 0) (opA B n)) p).1 = 0
  · obtain ⟨y1, y2, y3, y4⟩ := gp.1 hq
    have hz : ((chP B n (unP B n (if lm = 5 then 8 else 6) 0) (opA B n)) p) = (0, ((chP B n (unP B n (if lm = 5 then 8 else 6) 0) (opA B n)) p).2.1, ((chP B n (unP B n (if lm = 5 then 8 else 6) 0) (opA B n)) p).2.2) := Prod.ext hq rfl
    refine r_aloadR0 dX5_readTruth_0 ?_
    refine r_iload1 dX5_readTruth_1 ?_
    refine q_callV1 zm_RX5_164 dX5_readTruth_2 hr.1 (by decide) rfl (Nat.le_of_ble_eq_true rfl) (Nat.le_of_ble_eq_true rfl) (Nat.le_of_ble_eq_true rfl) (Nat.le_of_ble_eq_true rfl) (Nat.le_of_ble_eq_true rfl) (s_X5_readBoth_0 G hr kw ko htp htk hx hol hu hup (fun r2 v2 g2 o2 a2 b2 => ?_))
    have a2b : ((chP B n (unP B n (if lm = 5 then 8 else 6) 0) (opA B n)) p).1 = 0 → r2.toInt = 1 ∧ tkR ca B n g2 v2 A ((chP B n (unP B n (if lm = 5 then 8 else 6) 0) (opA B n)) p).2.1 ∧ okR f g2 A u ((chP B n (unP B n (if lm = 5 then 8 else 6) 0) (opA B n)) p).2.2 := a2
    have b2b : ((chP B n (unP B n (if lm = 5 then 8 else 6) 0) (opA B n)) p).1 ≠ 0 → r2.toInt = 0 ∧ flR g2 A ((chP B n (unP B n (if lm = 5 then 8 else 6) 0) (opA B n)) p).1 ((chP B n (unP B n (if lm = 5 then 8 else 6) 0) (opA B n)) p).2.1 := b2
    obtain ⟨c2_z, t2, k2_z⟩ := a2b hq
    refine t_ifne (t := 10) dX5_readTruth_5 (by decide) (fun h5 => ?_) (fun h5 => False.elim (by omega))
    refine n_iconst dX5_readTruth_10 (by decide) (fun r10 e10_z => ?_)
    refine r_istore2 dX5_readTruth_11 rfl ?_
    exact lp (n + 1) _ 0 n ((chP B n (unP B n (if lm = 5 then 8 else 6) 0) (opA B n)) p).2.1 ((chP B n (unP B n (if lm = 5 then 8 else 6) 0) (opA B n)) p).2.2 g2 _ (by omega) o2 t2 k2_z (by omega) y2 y3 (by omega) (by rw [← hz]; rfl) (Nat.lt_succ_self n)
  · have hv : chP B n (chP B n (unP B n (if lm = 5 then 8 else 6) 0) (opA B n)) (opO B n) p = ((chP B n (unP B n (if lm = 5 then 8 else 6) 0) (opA B n)) p) := lpP_bad hq
    rw [hv] at hQ
    refine r_aloadR0 dX5_readTruth_0 ?_
    refine r_iload1 dX5_readTruth_1 ?_
    refine q_callV1 zm_RX5_164 dX5_readTruth_2 hr.1 (by decide) rfl (Nat.le_of_ble_eq_true rfl) (Nat.le_of_ble_eq_true rfl) (Nat.le_of_ble_eq_true rfl) (Nat.le_of_ble_eq_true rfl) (Nat.le_of_ble_eq_true rfl) (s_X5_readBoth_0 G hr kw ko htp htk hx hol hu hup (fun r2 v2 g2 o2 a2 b2 => ?_))
    have a2b : ((chP B n (unP B n (if lm = 5 then 8 else 6) 0) (opA B n)) p).1 = 0 → r2.toInt = 1 ∧ tkR ca B n g2 v2 A ((chP B n (unP B n (if lm = 5 then 8 else 6) 0) (opA B n)) p).2.1 ∧ okR f g2 A u ((chP B n (unP B n (if lm = 5 then 8 else 6) 0) (opA B n)) p).2.2 := a2
    have b2b : ((chP B n (unP B n (if lm = 5 then 8 else 6) 0) (opA B n)) p).1 ≠ 0 → r2.toInt = 0 ∧ flR g2 A ((chP B n (unP B n (if lm = 5 then 8 else 6) 0) (opA B n)) p).1 ((chP B n (unP B n (if lm = 5 then 8 else 6) 0) (opA B n)) p).2.1 := b2
    obtain ⟨c2_z, l2⟩ := b2b hq
    refine t_ifne (t := 10) dX5_readTruth_5 (by decide) (fun h5 => False.elim (by omega)) (fun h5 => ?_)
    refine n_iconst dX5_readTruth_8 (by decide) (fun r8 e8 => ?_)
    refine m_zret dX5_readTruth_9 rfl (by omega) (Nat.le_of_ble_eq_true rfl) (Nat.le_of_ble_eq_true rfl) ?_
    exact hQ _ _ g2 o2 (fun h_z => absurd h_z hq) (fun _ => ⟨e8, l2⟩)
set_option maxHeartbeats 4000000 in
set_option maxRecDepth 100000 in
theorem s_X5_readUnit_1 {g : zGT} {w : zW} {f : Nat → Nat → Int32} {j : Nat → Nat → Int64} {A tq nq : Nat} {v : Option Nat} {B : Nat → Nat} {n : Nat} {ca wa wv : Nat → Nat} {kq ta sm gq gv : Nat} {p lm u : Nat} {x : Int32} {Q : Option Value → zW → Prop} {QX : String → zW → Prop} (G : zGok g) (hr : shRd w A tq nq) (kw : kWd g wa wv kq) (ko : kWo g ca wa wv ta sm gq gv) (htp : tpR B n f A tq) (htk : tkR ca B n f v A p) (hx : x.toInt = 5) (hol : (f A 10).toInt = if lm = 5 then 1 else 0) (hu : (f A 9).toInt = (u : Nat)) (hup : u ≤ p) (hQ : ∀ (b : Int32) v2 f2_z, frM A [8] [2, 3, 4, 5, 9, 11, 12] f f2_z → ((unP B n (if lm = 5 then 8 else 6) 1 p).1 = 0 → b.toInt = 1 ∧ tkR ca B n f2_z v2 A (unP B n (if lm = 5 then 8 else 6) 1 p).2.1 ∧ okR f f2_z A u (unP B n (if lm = 5 then 8 else 6) 1 p).2.2) → ((unP B n (if lm = 5 then 8 else 6) 1 p).1 ≠ 0 → b.toInt = 0 ∧ flR f2_z A (unP B n (if lm = 5 then 8 else 6) 1 p).1 (unP B n (if lm = 5 then 8 else 6) 1 p).2.1) → Q (some (.int b)) (zM (wW w A v2) f2_z j)) : zC g 44 yX5_readUnit cX5_readUnit 3 (some .boolean) [.ref A, .int x] (zM (wW w A v) f j) (0, 0) Q QX := by
  refine zC_of G (by decide +kernel) (Nat.le_of_ble_eq_true rfl) ?_
  have ht := hr.2.2.2.2.2.2
  have h4 := htk.2.2.2.1
  have hpn := htk.1
  have h900 := htp.2.1
  have hsm : ∀ s, s ≤ n → gdP n false (if lm = 5 then 8 else 6) (1 + 2 * 1 + 2) s (smP B n (if lm = 5 then 8 else 6) 1 s) := fun s hs9 => gd_su (gd_at (by split <;> decide) 1) hs9
  by_cases hw : isWd B n p 8 = true
  · have hv : unP B n (if lm = 5 then 8 else 6) 1 p = noP ((unP B n (if lm = 5 then 8 else 6) 0) (nxP B n p)) := if_pos hw
    rw [hv] at hQ
    have hwt := isWd_tk hw
    have hln := tk_lt (B := B) (n := n) (s := p) (by rw [hwt.1]; decide)
    have hnx := nxP_gt (B := B) hln
    have hgu : gdP n true (if lm = 5 then 8 else 6) (4 + 2 * 0) (nxP B n p) ((unP B n (if lm = 5 then 8 else 6) 0) (nxP B n p)) := gd_un (by split <;> decide) 0 _ hnx.2
    by_cases hq : ((unP B n (if lm = 5 then 8 else 6) 0) (nxP B n p)).1 = 0
    · have hv2 : noP ((unP B n (if lm = 5 then 8 else 6) 0) (nxP B n p)) = (0, ((unP B n (if lm = 5 then 8 else 6) 0) (nxP B n p)).2.1, ((unP B n (if lm = 5 then 8 else 6) 0) (nxP B n p)).2.2 ++ [2000]) := if_neg (not_not_intro hq)
      rw [hv2] at hQ
      obtain ⟨y1, y2, y3, y4⟩ := hgu.1 hq
      refine r_aloadR0 dX5_readUnit_0 ?_
      refine k_gets (ko.2.1 ("NOT", 8) (List.mem_of_getElem? (i := 4) rfl)) zg_RX5_182 dX5_readUnit_1 ?_
      refine q_callV1 zm_RX5_170 dX5_readUnit_4 hr.1 (by decide) rfl (Nat.le_of_ble_eq_true rfl) (Nat.le_of_ble_eq_true rfl) (Nat.le_of_ble_eq_true rfl) (Nat.le_of_ble_eq_true rfl) (Nat.le_of_ble_eq_true rfl) (s_X5_isWord (i := 8) G hr kw ko (by decide) htk (fun r4 e4_z => ?_))
      have e4b : r4.toInt = 1 := e4_z.elim (fun h_z => h_z.1) (fun h_z => absurd hw h_z.2)
      refine t_ifeq (t := 39) dX5_readUnit_7 (by decide) (fun h7 => False.elim (by omega)) (fun h7 => ?_)
      refine r_aloadR0 dX5_readUnit_10 ?_
      refine r_iload1 dX5_readUnit_11 ?_
      refine q_callV1 zm_RX5_185 dX5_readUnit_12 hr.1 (by decide) rfl (Nat.le_of_ble_eq_true rfl) (Nat.le_of_ble_eq_true rfl) (Nat.le_of_ble_eq_true rfl) (Nat.le_of_ble_eq_true rfl) (Nat.le_of_ble_eq_true rfl) (s_X5_goDeeper (d := 5) G hr kw ko htp hx htk (fun rd vd gd od ad bd => ?_))
      obtain ⟨cd, td⟩ := ad (by decide)
      have htpd := tpR_of htp ht od (by decide)
      have wd : gd (A + 8) = f (A + 8) := od.2.1 8 (by decide) (by decide) (by decide)
      refine t_ifeq (t := 28) dX5_readUnit_15 (by decide) (fun h15 => False.elim (by omega)) (fun h15 => ?_)
      refine r_aloadR0 dX5_readUnit_18 ?_
      refine r_iload1 dX5_readUnit_19 ?_
      refine n_iconst dX5_readUnit_20 (by decide) (fun r20 e20 => ?_)
      refine n_iadd dX5_readUnit_21 (by omega) (fun r21 e21_z => ?_)
      refine q_callV1 zm_RX5_176 dX5_readUnit_22 hr.1 (by decide) rfl (Nat.le_of_ble_eq_true rfl) (Nat.le_of_ble_eq_true rfl) (Nat.le_of_ble_eq_true rfl) (Nat.le_of_ble_eq_true rfl) (Nat.le_of_ble_eq_true rfl) (s_X5_readUnit_0 (lm := lm) (u := u) G hr kw ko htpd td (by omega) (by rw [od.2.2 10 (by decide)]; exact hol) (by rw [od.2.2 9 (by decide)]; exact hu) (by omega) (fun rs vs gs os as bs => ?_))
      have as2 : ((unP B n (if lm = 5 then 8 else 6) 0) (nxP B n p)).1 = 0 → rs.toInt = 1 ∧ tkR ca B n gs vs A ((unP B n (if lm = 5 then 8 else 6) 0) (nxP B n p)).2.1 ∧ okR gd gs A u ((unP B n (if lm = 5 then 8 else 6) 0) (nxP B n p)).2.2 := as
      have bs2 : ((unP B n (if lm = 5 then 8 else 6) 0) (nxP B n p)).1 ≠ 0 → rs.toInt = 0 ∧ flR gs A ((unP B n (if lm = 5 then 8 else 6) 0) (nxP B n p)).1 ((unP B n (if lm = 5 then 8 else 6) 0) (nxP B n p)).2.1 := bs
      have ofs : frM A [8] [2, 3, 4, 5, 9, 11, 12] f gs := frM_tr (frM_su od (by decide) (by decide)) os
      obtain ⟨cs, ts, ks⟩ := as2 hq
      refine t_ifne (t := 30) dX5_readUnit_25 (by decide) (fun h25 => ?_) (fun h25 => False.elim (by omega))
      refine r_aloadR0 dX5_readUnit_30 ?_
      refine n_sipush dX5_readUnit_31 (by decide) (fun r31 e31_z => ?_)
      refine q_callV1 zm_RX5_173 dX5_readUnit_34 hr.1 (by decide) rfl (Nat.le_of_ble_eq_true rfl) (Nat.le_of_ble_eq_true rfl) (Nat.le_of_ble_eq_true rfl) (Nat.le_of_ble_eq_true rfl) (Nat.le_of_ble_eq_true rfl) (s_X5_emit (u := u + ((unP B n (if lm = 5 then 8 else 6) 0) (nxP B n p)).2.2.length) G hr ks.1 (by omega) (fun g34 o34 a34 b34 c34 => ?_))
      refine n_iconst dX5_readUnit_37 (by decide) (fun r37 e37 => ?_)
      refine m_zret dX5_readUnit_38 rfl (by omega) (Nat.le_of_ble_eq_true rfl) (Nat.le_of_ble_eq_true rfl) ?_
      exact hQ _ _ g34 (frM_tr ofs (frM_su o34 (by decide) (by decide))) (fun _ => ⟨e37, tkR_of ts o34 (by decide) (by decide) (by decide) (by decide), okR_ap (okR_cg ks wd rfl rfl) (okR_one a34 b34 c34 (by omega))⟩) (fun h_z => absurd rfl h_z)
    · have hv2 : noP ((unP B n (if lm = 5 then 8 else 6) 0) (nxP B n p)) = ((unP B n (if lm = 5 then 8 else 6) 0) (nxP B n p)) := if_pos hq
      rw [hv2] at hQ
      refine r_aloadR0 dX5_readUnit_0 ?_
      refine k_gets (ko.2.1 ("NOT", 8) (List.mem_of_getElem? (i := 4) rfl)) zg_RX5_182 dX5_readUnit_1 ?_
      refine q_callV1 zm_RX5_170 dX5_readUnit_4 hr.1 (by decide) rfl (Nat.le_of_ble_eq_true rfl) (Nat.le_of_ble_eq_true rfl) (Nat.le_of_ble_eq_true rfl) (Nat.le_of_ble_eq_true rfl) (Nat.le_of_ble_eq_true rfl) (s_X5_isWord (i := 8) G hr kw ko (by decide) htk (fun r4 e4_z => ?_))
      have e4b : r4.toInt = 1 := e4_z.elim (fun h_z => h_z.1) (fun h_z => absurd hw h_z.2)
      refine t_ifeq (t := 39) dX5_readUnit_7 (by decide) (fun h7 => False.elim (by omega)) (fun h7 => ?_)
      refine r_aloadR0 dX5_readUnit_10 ?_
      refine r_iload1 dX5_readUnit_11 ?_
      refine q_callV1 zm_RX5_185 dX5_readUnit_12 hr.1 (by decide) rfl (Nat.le_of_ble_eq_true rfl) (Nat.le_of_ble_eq_true rfl) (Nat.le_of_ble_eq_true rfl) (Nat.le_of_ble_eq_true rfl) (Nat.le_of_ble_eq_true rfl) (s_X5_goDeeper (d := 5) G hr kw ko htp hx htk (fun rd vd gd od ad bd => ?_))
      obtain ⟨cd, td⟩ := ad (by decide)
      have htpd := tpR_of htp ht od (by decide)
      have wd : gd (A + 8) = f (A + 8) := od.2.1 8 (by decide) (by decide) (by decide)
      refine t_ifeq (t := 28) dX5_readUnit_15 (by decide) (fun h15 => False.elim (by omega)) (fun h15 => ?_)
      refine r_aloadR0 dX5_readUnit_18 ?_
      refine r_iload1 dX5_readUnit_19 ?_
      refine n_iconst dX5_readUnit_20 (by decide) (fun r20 e20 => ?_)
      refine n_iadd dX5_readUnit_21 (by omega) (fun r21 e21_z => ?_)
      refine q_callV1 zm_RX5_176 dX5_readUnit_22 hr.1 (by decide) rfl (Nat.le_of_ble_eq_true rfl) (Nat.le_of_ble_eq_true rfl) (Nat.le_of_ble_eq_true rfl) (Nat.le_of_ble_eq_true rfl) (Nat.le_of_ble_eq_true rfl) (s_X5_readUnit_0 (lm := lm) (u := u) G hr kw ko htpd td (by omega) (by rw [od.2.2 10 (by decide)]; exact hol) (by rw [od.2.2 9 (by decide)]; exact hu) (by omega) (fun rs vs gs os as bs => ?_))
      have as2 : ((unP B n (if lm = 5 then 8 else 6) 0) (nxP B n p)).1 = 0 → rs.toInt = 1 ∧ tkR ca B n gs vs A ((unP B n (if lm = 5 then 8 else 6) 0) (nxP B n p)).2.1 ∧ okR gd gs A u ((unP B n (if lm = 5 then 8 else 6) 0) (nxP B n p)).2.2 := as
      have bs2 : ((unP B n (if lm = 5 then 8 else 6) 0) (nxP B n p)).1 ≠ 0 → rs.toInt = 0 ∧ flR gs A ((unP B n (if lm = 5 then 8 else 6) 0) (nxP B n p)).1 ((unP B n (if lm = 5 then 8 else 6) 0) (nxP B n p)).2.1 := bs
      have ofs : frM A [8] [2, 3, 4, 5, 9, 11, 12] f gs := frM_tr (frM_su od (by decide) (by decide)) os
      obtain ⟨cs, ls⟩ := bs2 hq
      refine t_ifne (t := 30) dX5_readUnit_25 (by decide) (fun h25 => False.elim (by omega)) (fun h25 => ?_)
      refine n_iconst dX5_readUnit_28 (by decide) (fun r28 e28_z => ?_)
      refine m_zret dX5_readUnit_29 rfl (by omega) (Nat.le_of_ble_eq_true rfl) (Nat.le_of_ble_eq_true rfl) ?_
      exact hQ _ _ gs ofs (fun h_z => absurd h_z hq) (fun _ => ⟨e28_z, ls⟩)
  by_cases hp : tkP B n p = 91
  · have hv : unP B n (if lm = 5 then 8 else 6) 1 p = clP B n 93 (trU B n (unP B n (if lm = 5 then 8 else 6) 0) (nxP B n p)) := (if_neg hw).trans (if_pos hp)
    rw [hv] at hQ
    have hln := tk_lt (B := B) (n := n) (s := p) (by rw [hp]; decide)
    have hnx := nxP_gt (B := B) hln
    by_cases hq : (trU B n (unP B n (if lm = 5 then 8 else 6) 0) (nxP B n p)).1 = 0
    · by_cases h93 : tkP B n (trU B n (unP B n (if lm = 5 then 8 else 6) 0) (nxP B n p)).2.1 = 93
      · have hv2 : clP B n 93 (trU B n (unP B n (if lm = 5 then 8 else 6) 0) (nxP B n p)) = (0, nxP B n (trU B n (unP B n (if lm = 5 then 8 else 6) 0) (nxP B n p)).2.1, (trU B n (unP B n (if lm = 5 then 8 else 6) 0) (nxP B n p)).2.2) := (if_neg (not_not_intro hq)).trans (if_pos h93)
        rw [hv2] at hQ
        refine r_aloadR0 dX5_readUnit_0 ?_
        refine k_gets (ko.2.1 ("NOT", 8) (List.mem_of_getElem? (i := 4) rfl)) zg_RX5_182 dX5_readUnit_1 ?_
        refine q_callV1 zm_RX5_170 dX5_readUnit_4 hr.1 (by decide) rfl (Nat.le_of_ble_eq_true rfl) (Nat.le_of_ble_eq_true rfl) (Nat.le_of_ble_eq_true rfl) (Nat.le_of_ble_eq_true rfl) (Nat.le_of_ble_eq_true rfl) (s_X5_isWord (i := 8) G hr kw ko (by decide) htk (fun r4 e4_z => ?_))
        have e4b : r4.toInt = 0 := e4_z.elim (fun h_z => absurd h_z.2 hw) (fun h_z => h_z.1)
        refine t_ifeq (t := 39) dX5_readUnit_7 (by decide) (fun h7 => ?_) (fun h7 => False.elim (by omega))
        refine r_aloadR0 dX5_readUnit_39 ?_
        refine m_getV (x := (f A 4)) zf_RX5_25 rfl dX5_readUnit_40 hr.1 (rfl) ?_
        refine n_bipush dX5_readUnit_43 (by decide) (fun r43 e43 => ?_)
        refine t_icne (t := 81) dX5_readUnit_45 (by decide) (fun h45 => False.elim (by omega)) (fun h45 => ?_)
        refine r_aloadR0 dX5_readUnit_48 ?_
        refine r_iload1 dX5_readUnit_49 ?_
        refine q_callV1 zm_RX5_185 dX5_readUnit_50 hr.1 (by decide) rfl (Nat.le_of_ble_eq_true rfl) (Nat.le_of_ble_eq_true rfl) (Nat.le_of_ble_eq_true rfl) (Nat.le_of_ble_eq_true rfl) (Nat.le_of_ble_eq_true rfl) (s_X5_goDeeper (d := 5) G hr kw ko htp hx htk (fun rd vd gd od ad bd => ?_))
        obtain ⟨cd, td⟩ := ad (by decide)
        have htpd := tpR_of htp ht od (by decide)
        have wd : gd (A + 8) = f (A + 8) := od.2.1 8 (by decide) (by decide) (by decide)
        refine t_ifeq (t := 79) dX5_readUnit_53 (by decide) (fun h53 => False.elim (by omega)) (fun h53 => ?_)
        refine r_aloadR0 dX5_readUnit_56 ?_
        refine r_iload1 dX5_readUnit_57 ?_
        refine n_iconst dX5_readUnit_58 (by decide) (fun r58 e58 => ?_)
        refine n_iadd dX5_readUnit_59 (by omega) (fun r59 e59 => ?_)
        refine q_callV1 zm_RX5_143 dX5_readUnit_60 hr.1 (by decide) rfl (Nat.le_of_ble_eq_true rfl) (Nat.le_of_ble_eq_true rfl) (Nat.le_of_ble_eq_true rfl) (Nat.le_of_ble_eq_true rfl) (Nat.le_of_ble_eq_true rfl) (s_X5_readTruth_0 (lm := lm) (u := u) G hr kw ko htpd td (by omega) (by rw [od.2.2 10 (by decide)]; exact hol) (by rw [od.2.2 9 (by decide)]; exact hu) (by omega) (fun rs vs gs os as bs => ?_))
        have as2 : (trU B n (unP B n (if lm = 5 then 8 else 6) 0) (nxP B n p)).1 = 0 → rs.toInt = 1 ∧ tkR ca B n gs vs A (trU B n (unP B n (if lm = 5 then 8 else 6) 0) (nxP B n p)).2.1 ∧ okR gd gs A u (trU B n (unP B n (if lm = 5 then 8 else 6) 0) (nxP B n p)).2.2 := as
        have bs2 : (trU B n (unP B n (if lm = 5 then 8 else 6) 0) (nxP B n p)).1 ≠ 0 → rs.toInt = 0 ∧ flR gs A (trU B n (unP B n (if lm = 5 then 8 else 6) 0) (nxP B n p)).1 (trU B n (unP B n (if lm = 5 then 8 else 6) 0) (nxP B n p)).2.1 := bs
        have ofs : frM A [8] [2, 3, 4, 5, 9, 11, 12] f gs := frM_tr (frM_su od (by decide) (by decide)) os
        obtain ⟨cs, ts, ks⟩ := as2 hq
        refine t_ifeq (t := 79) dX5_readUnit_63 (by decide) (fun h63 => False.elim (by omega)) (fun h63 => ?_)
        refine r_aloadR0 dX5_readUnit_66 ?_
        refine n_bipush dX5_readUnit_67 (by decide) (fun r67 e67 => ?_)
        refine q_callV1 zm_RX5_102 dX5_readUnit_69 hr.1 (by decide) rfl (Nat.le_of_ble_eq_true rfl) (Nat.le_of_ble_eq_true rfl) (Nat.le_of_ble_eq_true rfl) (Nat.le_of_ble_eq_true rfl) (Nat.le_of_ble_eq_true rfl) (s_X5_takeSign (s := (trU B n (unP B n (if lm = 5 then 8 else 6) 0) (nxP B n p)).2.1) (c := 93) G hr kw ko (tpR_of htp ht ofs (by decide)) e67 ts (fun r69 v69 g69 o69 a69 b69 => ?_))
        obtain ⟨c69, t69⟩ := a69 h93
        refine t_ifeq (t := 79) dX5_readUnit_72 (by decide) (fun h72 => False.elim (by omega)) (fun h72 => ?_)
        refine n_iconst dX5_readUnit_75 (by decide) (fun r75 e75 => ?_)
        refine r_goto (t := 80) dX5_readUnit_76 (by decide) ?_
        refine m_zret dX5_readUnit_80 rfl (by omega) (Nat.le_of_ble_eq_true rfl) (Nat.le_of_ble_eq_true rfl) ?_
        exact hQ _ _ g69 (frM_tr ofs (frM_su o69 (by decide) (by decide))) (fun _ => ⟨e75, t69, okR_cg ks wd (o69.2.1 8 (by decide) (by decide) (by decide)) (o69.2.2 9 (by decide))⟩) (fun h_z => absurd rfl h_z)
      · have hv2 : clP B n 93 (trU B n (unP B n (if lm = 5 then 8 else 6) 0) (nxP B n p)) = (baP B n (trU B n (unP B n (if lm = 5 then 8 else 6) 0) (nxP B n p)).2.1, (trU B n (unP B n (if lm = 5 then 8 else 6) 0) (nxP B n p)).2.1, []) := (if_neg (not_not_intro hq)).trans (if_neg h93)
        rw [hv2] at hQ
        refine r_aloadR0 dX5_readUnit_0 ?_
        refine k_gets (ko.2.1 ("NOT", 8) (List.mem_of_getElem? (i := 4) rfl)) zg_RX5_182 dX5_readUnit_1 ?_
        refine q_callV1 zm_RX5_170 dX5_readUnit_4 hr.1 (by decide) rfl (Nat.le_of_ble_eq_true rfl) (Nat.le_of_ble_eq_true rfl) (Nat.le_of_ble_eq_true rfl) (Nat.le_of_ble_eq_true rfl) (Nat.le_of_ble_eq_true rfl) (s_X5_isWord (i := 8) G hr kw ko (by decide) htk (fun r4 e4_z => ?_))
        have e4b : r4.toInt = 0 := e4_z.elim (fun h_z => absurd h_z.2 hw) (fun h_z => h_z.1)
        refine t_ifeq (t := 39) dX5_readUnit_7 (by decide) (fun h7 => ?_) (fun h7 => False.elim (by omega))
        refine r_aloadR0 dX5_readUnit_39 ?_
        refine m_getV (x := (f A 4)) zf_RX5_25 rfl dX5_readUnit_40 hr.1 (rfl) ?_
        refine n_bipush dX5_readUnit_43 (by decide) (fun r43 e43 => ?_)
        refine t_icne (t := 81) dX5_readUnit_45 (by decide) (fun h45 => False.elim (by omega)) (fun h45 => ?_)
        refine r_aloadR0 dX5_readUnit_48 ?_
        refine r_iload1 dX5_readUnit_49 ?_
        refine q_callV1 zm_RX5_185 dX5_readUnit_50 hr.1 (by decide) rfl (Nat.le_of_ble_eq_true rfl) (Nat.le_of_ble_eq_true rfl) (Nat.le_of_ble_eq_true rfl) (Nat.le_of_ble_eq_true rfl) (Nat.le_of_ble_eq_true rfl) (s_X5_goDeeper (d := 5) G hr kw ko htp hx htk (fun rd vd gd od ad bd => ?_))
        obtain ⟨cd, td⟩ := ad (by decide)
        have htpd := tpR_of htp ht od (by decide)
        have wd : gd (A + 8) = f (A + 8) := od.2.1 8 (by decide) (by decide) (by decide)
        refine t_ifeq (t := 79) dX5_readUnit_53 (by decide) (fun h53 => False.elim (by omega)) (fun h53 => ?_)
        refine r_aloadR0 dX5_readUnit_56 ?_
        refine r_iload1 dX5_readUnit_57 ?_
        refine n_iconst dX5_readUnit_58 (by decide) (fun r58 e58 => ?_)
        refine n_iadd dX5_readUnit_59 (by omega) (fun r59 e59 => ?_)
        refine q_callV1 zm_RX5_143 dX5_readUnit_60 hr.1 (by decide) rfl (Nat.le_of_ble_eq_true rfl) (Nat.le_of_ble_eq_true rfl) (Nat.le_of_ble_eq_true rfl) (Nat.le_of_ble_eq_true rfl) (Nat.le_of_ble_eq_true rfl) (s_X5_readTruth_0 (lm := lm) (u := u) G hr kw ko htpd td (by omega) (by rw [od.2.2 10 (by decide)]; exact hol) (by rw [od.2.2 9 (by decide)]; exact hu) (by omega) (fun rs vs gs os as bs => ?_))
        have as2 : (trU B n (unP B n (if lm = 5 then 8 else 6) 0) (nxP B n p)).1 = 0 → rs.toInt = 1 ∧ tkR ca B n gs vs A (trU B n (unP B n (if lm = 5 then 8 else 6) 0) (nxP B n p)).2.1 ∧ okR gd gs A u (trU B n (unP B n (if lm = 5 then 8 else 6) 0) (nxP B n p)).2.2 := as
        have bs2 : (trU B n (unP B n (if lm = 5 then 8 else 6) 0) (nxP B n p)).1 ≠ 0 → rs.toInt = 0 ∧ flR gs A (trU B n (unP B n (if lm = 5 then 8 else 6) 0) (nxP B n p)).1 (trU B n (unP B n (if lm = 5 then 8 else 6) 0) (nxP B n p)).2.1 := bs
        have ofs : frM A [8] [2, 3, 4, 5, 9, 11, 12] f gs := frM_tr (frM_su od (by decide) (by decide)) os
        obtain ⟨cs, ts, ks⟩ := as2 hq
        refine t_ifeq (t := 79) dX5_readUnit_63 (by decide) (fun h63 => False.elim (by omega)) (fun h63 => ?_)
        refine r_aloadR0 dX5_readUnit_66 ?_
        refine n_bipush dX5_readUnit_67 (by decide) (fun r67 e67 => ?_)
        refine q_callV1 zm_RX5_102 dX5_readUnit_69 hr.1 (by decide) rfl (Nat.le_of_ble_eq_true rfl) (Nat.le_of_ble_eq_true rfl) (Nat.le_of_ble_eq_true rfl) (Nat.le_of_ble_eq_true rfl) (Nat.le_of_ble_eq_true rfl) (s_X5_takeSign (s := (trU B n (unP B n (if lm = 5 then 8 else 6) 0) (nxP B n p)).2.1) (c := 93) G hr kw ko (tpR_of htp ht ofs (by decide)) e67 ts (fun r69 v69 g69 o69 a69 b69 => ?_))
        obtain ⟨c69, l69⟩ := b69 h93
        refine t_ifeq (t := 79) dX5_readUnit_72 (by decide) (fun h72 => ?_) (fun h72 => False.elim (by omega))
        refine n_iconst dX5_readUnit_79 (by decide) (fun r79 e79 => ?_)
        refine m_zret dX5_readUnit_80 rfl (by omega) (Nat.le_of_ble_eq_true rfl) (Nat.le_of_ble_eq_true rfl) ?_
        exact hQ _ _ g69 (frM_tr ofs (frM_su o69 (by decide) (by decide))) (fun h_z => absurd h_z ba_bd.1) (fun _ => ⟨e79, l69⟩)
    · have hv2 : clP B n 93 (trU B n (unP B n (if lm = 5 then 8 else 6) 0) (nxP B n p)) = (trU B n (unP B n (if lm = 5 then 8 else 6) 0) (nxP B n p)) := if_pos hq
      rw [hv2] at hQ
      refine r_aloadR0 dX5_readUnit_0 ?_
      refine k_gets (ko.2.1 ("NOT", 8) (List.mem_of_getElem? (i := 4) rfl)) zg_RX5_182 dX5_readUnit_1 ?_
      refine q_callV1 zm_RX5_170 dX5_readUnit_4 hr.1 (by decide) rfl (Nat.le_of_ble_eq_true rfl) (Nat.le_of_ble_eq_true rfl) (Nat.le_of_ble_eq_true rfl) (Nat.le_of_ble_eq_true rfl) (Nat.le_of_ble_eq_true rfl) (s_X5_isWord (i := 8) G hr kw ko (by decide) htk (fun r4 e4_z => ?_))
      have e4b : r4.toInt = 0 := e4_z.elim (fun h_z => absurd h_z.2 hw) (fun h_z => h_z.1)
      refine t_ifeq (t := 39) dX5_readUnit_7 (by decide) (fun h7 => ?_) (fun h7 => False.elim (by omega))
      refine r_aloadR0 dX5_readUnit_39 ?_
      refine m_getV (x := (f A 4)) zf_RX5_25 rfl dX5_readUnit_40 hr.1 (rfl) ?_
      refine n_bipush dX5_readUnit_43 (by decide) (fun r43 e43 => ?_)
      refine t_icne (t := 81) dX5_readUnit_45 (by decide) (fun h45 => False.elim (by omega)) (fun h45 => ?_)
      refine r_aloadR0 dX5_readUnit_48 ?_
      refine r_iload1 dX5_readUnit_49 ?_
      refine q_callV1 zm_RX5_185 dX5_readUnit_50 hr.1 (by decide) rfl (Nat.le_of_ble_eq_true rfl) (Nat.le_of_ble_eq_true rfl) (Nat.le_of_ble_eq_true rfl) (Nat.le_of_ble_eq_true rfl) (Nat.le_of_ble_eq_true rfl) (s_X5_goDeeper (d := 5) G hr kw ko htp hx htk (fun rd vd gd od ad bd => ?_))
      obtain ⟨cd, td⟩ := ad (by decide)
      have htpd := tpR_of htp ht od (by decide)
      have wd : gd (A + 8) = f (A + 8) := od.2.1 8 (by decide) (by decide) (by decide)
      refine t_ifeq (t := 79) dX5_readUnit_53 (by decide) (fun h53 => False.elim (by omega)) (fun h53 => ?_)
      refine r_aloadR0 dX5_readUnit_56 ?_
      refine r_iload1 dX5_readUnit_57 ?_
      refine n_iconst dX5_readUnit_58 (by decide) (fun r58 e58 => ?_)
      refine n_iadd dX5_readUnit_59 (by omega) (fun r59 e59 => ?_)
      refine q_callV1 zm_RX5_143 dX5_readUnit_60 hr.1 (by decide) rfl (Nat.le_of_ble_eq_true rfl) (Nat.le_of_ble_eq_true rfl) (Nat.le_of_ble_eq_true rfl) (Nat.le_of_ble_eq_true rfl) (Nat.le_of_ble_eq_true rfl) (s_X5_readTruth_0 (lm := lm) (u := u) G hr kw ko htpd td (by omega) (by rw [od.2.2 10 (by decide)]; exact hol) (by rw [od.2.2 9 (by decide)]; exact hu) (by omega) (fun rs vs gs os as bs => ?_))
      have as2 : (trU B n (unP B n (if lm = 5 then 8 else 6) 0) (nxP B n p)).1 = 0 → rs.toInt = 1 ∧ tkR ca B n gs vs A (trU B n (unP B n (if lm = 5 then 8 else 6) 0) (nxP B n p)).2.1 ∧ okR gd gs A u (trU B n (unP B n (if lm = 5 then 8 else 6) 0) (nxP B n p)).2.2 := as
      have bs2 : (trU B n (unP B n (if lm = 5 then 8 else 6) 0) (nxP B n p)).1 ≠ 0 → rs.toInt = 0 ∧ flR gs A (trU B n (unP B n (if lm = 5 then 8 else 6) 0) (nxP B n p)).1 (trU B n (unP B n (if lm = 5 then 8 else 6) 0) (nxP B n p)).2.1 := bs
      have ofs : frM A [8] [2, 3, 4, 5, 9, 11, 12] f gs := frM_tr (frM_su od (by decide) (by decide)) os
      obtain ⟨cs, ls⟩ := bs2 hq
      refine t_ifeq (t := 79) dX5_readUnit_63 (by decide) (fun h63 => ?_) (fun h63 => False.elim (by omega))
      refine n_iconst dX5_readUnit_79 (by decide) (fun r79 e79 => ?_)
      refine m_zret dX5_readUnit_80 rfl (by omega) (Nat.le_of_ble_eq_true rfl) (Nat.le_of_ble_eq_true rfl) ?_
      exact hQ _ _ gs ofs (fun h_z => absurd h_z hq) (fun _ => ⟨e79, ls⟩)
  have hv0 : unP B n (if lm = 5 then 8 else 6) 1 p = cmP B n (smP B n (if lm = 5 then 8 else 6) 1) p := (if_neg hw).trans (if_neg hp)
  rw [hv0] at hQ
  by_cases hq : (smP B n (if lm = 5 then 8 else 6) 1 p).1 = 0
  · obtain ⟨y1, y2, y3, y4⟩ := (hsm p hpn).1 hq
    by_cases hop : opC B n (smP B n (if lm = 5 then 8 else 6) 1 p).2.1 = 0
    · have hv : cmP B n (smP B n (if lm = 5 then 8 else 6) 1) p = (baP B n (smP B n (if lm = 5 then 8 else 6) 1 p).2.1, (smP B n (if lm = 5 then 8 else 6) 1 p).2.1, []) := (if_neg (not_not_intro hq)).trans (if_pos hop)
      rw [hv] at hQ
      have hba := ba_bd (B := B) (n := n) (s := (smP B n (if lm = 5 then 8 else 6) 1 p).2.1)
      refine r_aloadR0 dX5_readUnit_0 ?_
      refine k_gets (ko.2.1 ("NOT", 8) (List.mem_of_getElem? (i := 4) rfl)) zg_RX5_182 dX5_readUnit_1 ?_
      refine q_callV1 zm_RX5_170 dX5_readUnit_4 hr.1 (by decide) rfl (Nat.le_of_ble_eq_true rfl) (Nat.le_of_ble_eq_true rfl) (Nat.le_of_ble_eq_true rfl) (Nat.le_of_ble_eq_true rfl) (Nat.le_of_ble_eq_true rfl) (s_X5_isWord (i := 8) G hr kw ko (by decide) htk (fun r4 e4_z => ?_))
      have e4b : r4.toInt = 0 := e4_z.elim (fun h_z => absurd h_z.2 hw) (fun h_z => h_z.1)
      refine t_ifeq (t := 39) dX5_readUnit_7 (by decide) (fun h7 => ?_) (fun h7 => False.elim (by omega))
      refine r_aloadR0 dX5_readUnit_39 ?_
      refine m_getV (x := (f A 4)) zf_RX5_25 rfl dX5_readUnit_40 hr.1 (rfl) ?_
      refine n_bipush dX5_readUnit_43 (by decide) (fun r43 e43 => ?_)
      refine t_icne (t := 81) dX5_readUnit_45 (by decide) (fun h45 => ?_) (fun h45 => False.elim (by omega))
      refine r_aloadR0 dX5_readUnit_81 ?_
      refine r_iload1 dX5_readUnit_82 ?_
      refine q_callV1 zm_RX5_146 dX5_readUnit_83 hr.1 (by decide) rfl (Nat.le_of_ble_eq_true rfl) (Nat.le_of_ble_eq_true rfl) (Nat.le_of_ble_eq_true rfl) (Nat.le_of_ble_eq_true rfl) (Nat.le_of_ble_eq_true rfl) (s_X5_readSum_1 (lm := lm) (u := u) G hr kw ko htp htk hx hol hu hup (fun r83 v83 g83 o83 a83 b83 => ?_))
      have a83b : (smP B n (if lm = 5 then 8 else 6) 1 p).1 = 0 → r83.toInt = 1 ∧ tkR ca B n g83 v83 A (smP B n (if lm = 5 then 8 else 6) 1 p).2.1 ∧ okR f g83 A u (smP B n (if lm = 5 then 8 else 6) 1 p).2.2 := a83
      have b83b : (smP B n (if lm = 5 then 8 else 6) 1 p).1 ≠ 0 → r83.toInt = 0 ∧ flR g83 A (smP B n (if lm = 5 then 8 else 6) 1 p).1 (smP B n (if lm = 5 then 8 else 6) 1 p).2.1 := b83
      obtain ⟨c83, t83, k83⟩ := a83b hq
      have htp83 := tpR_of htp ht o83 (by decide)
      refine t_ifne (t := 91) dX5_readUnit_86 (by decide) (fun h86 => ?_) (fun h86 => False.elim (by omega))
      refine r_aloadR0 dX5_readUnit_91 ?_
      refine q_callV0 zm_RX5_188 dX5_readUnit_92 hr.1 (by decide) rfl (Nat.le_of_ble_eq_true rfl) (Nat.le_of_ble_eq_true rfl) (Nat.le_of_ble_eq_true rfl) (Nat.le_of_ble_eq_true rfl) (Nat.le_of_ble_eq_true rfl) (s_X5_comparing (n := n) (B := B) (s := (smP B n (if lm = 5 then 8 else 6) 1 p).2.1) G hr t83 (fun r92 a92 b92 => ?_))
      have e92_z := a92 hop
      refine r_istore2 dX5_readUnit_95 rfl ?_
      refine r_iload2 dX5_readUnit_96 ?_
      refine n_iconst dX5_readUnit_97 (by decide) (fun r97 e97_z => ?_)
      refine t_icne (t := 106) dX5_readUnit_98 (by decide) (fun h98 => False.elim (by omega)) (fun h98 => ?_)
      refine r_aloadR0 dX5_readUnit_101 ?_
      refine q_callV0 zm_RX5_80 dX5_readUnit_102 hr.1 (by decide) rfl (Nat.le_of_ble_eq_true rfl) (Nat.le_of_ble_eq_true rfl) (Nat.le_of_ble_eq_true rfl) (Nat.le_of_ble_eq_true rfl) (Nat.le_of_ble_eq_true rfl) (s_X5_refuseToken G hr t83 (fun r102 g102 e102_z o102 l102 => ?_))
      refine m_zret dX5_readUnit_105 rfl (by omega) (Nat.le_of_ble_eq_true rfl) (Nat.le_of_ble_eq_true rfl) ?_
      exact hQ _ _ g102 (frM_tr o83 (frM_su o102 (by decide) (by decide))) (fun h_z => absurd h_z hba.1) (fun _ => ⟨e102_z, l102⟩)
    · have hcb := (hop_C (B := B) (n := n) _ hop)
      have hnx := nxP_gt (B := B) hcb.1
      have hge : 2000 ≤ opC B n (smP B n (if lm = 5 then 8 else 6) 1 p).2.1 := by rcases hcb.2 with ⟨_, _, h_z⟩ | ⟨_, _, h_z⟩ | ⟨_, _, h_z⟩ <;> omega
      by_cases hq2 : (smP B n (if lm = 5 then 8 else 6) 1 (nxP B n (smP B n (if lm = 5 then 8 else 6) 1 p).2.1)).1 = 0
      · obtain ⟨z1, z2, z3, z4⟩ := (hsm _ hnx.2).1 hq2
        have hv : cmP B n (smP B n (if lm = 5 then 8 else 6) 1) p = (0, (smP B n (if lm = 5 then 8 else 6) 1 (nxP B n (smP B n (if lm = 5 then 8 else 6) 1 p).2.1)).2.1, (smP B n (if lm = 5 then 8 else 6) 1 p).2.2 ++ (smP B n (if lm = 5 then 8 else 6) 1 (nxP B n (smP B n (if lm = 5 then 8 else 6) 1 p).2.1)).2.2 ++ [opC B n (smP B n (if lm = 5 then 8 else 6) 1 p).2.1]) := (if_neg (not_not_intro hq)).trans ((if_neg hop).trans (if_neg (not_not_intro hq2)))
        rw [hv] at hQ
        refine r_aloadR0 dX5_readUnit_0 ?_
        refine k_gets (ko.2.1 ("NOT", 8) (List.mem_of_getElem? (i := 4) rfl)) zg_RX5_182 dX5_readUnit_1 ?_
        refine q_callV1 zm_RX5_170 dX5_readUnit_4 hr.1 (by decide) rfl (Nat.le_of_ble_eq_true rfl) (Nat.le_of_ble_eq_true rfl) (Nat.le_of_ble_eq_true rfl) (Nat.le_of_ble_eq_true rfl) (Nat.le_of_ble_eq_true rfl) (s_X5_isWord (i := 8) G hr kw ko (by decide) htk (fun r4 e4_z => ?_))
        have e4b : r4.toInt = 0 := e4_z.elim (fun h_z => absurd h_z.2 hw) (fun h_z => h_z.1)
        refine t_ifeq (t := 39) dX5_readUnit_7 (by decide) (fun h7 => ?_) (fun h7 => False.elim (by omega))
        refine r_aloadR0 dX5_readUnit_39 ?_
        refine m_getV (x := (f A 4)) zf_RX5_25 rfl dX5_readUnit_40 hr.1 (rfl) ?_
        refine n_bipush dX5_readUnit_43 (by decide) (fun r43 e43 => ?_)
        refine t_icne (t := 81) dX5_readUnit_45 (by decide) (fun h45 => ?_) (fun h45 => False.elim (by omega))
        refine r_aloadR0 dX5_readUnit_81 ?_
        refine r_iload1 dX5_readUnit_82 ?_
        refine q_callV1 zm_RX5_146 dX5_readUnit_83 hr.1 (by decide) rfl (Nat.le_of_ble_eq_true rfl) (Nat.le_of_ble_eq_true rfl) (Nat.le_of_ble_eq_true rfl) (Nat.le_of_ble_eq_true rfl) (Nat.le_of_ble_eq_true rfl) (s_X5_readSum_1 (lm := lm) (u := u) G hr kw ko htp htk hx hol hu hup (fun r83 v83 g83 o83 a83 b83 => ?_))
        have a83b : (smP B n (if lm = 5 then 8 else 6) 1 p).1 = 0 → r83.toInt = 1 ∧ tkR ca B n g83 v83 A (smP B n (if lm = 5 then 8 else 6) 1 p).2.1 ∧ okR f g83 A u (smP B n (if lm = 5 then 8 else 6) 1 p).2.2 := a83
        have b83b : (smP B n (if lm = 5 then 8 else 6) 1 p).1 ≠ 0 → r83.toInt = 0 ∧ flR g83 A (smP B n (if lm = 5 then 8 else 6) 1 p).1 (smP B n (if lm = 5 then 8 else 6) 1 p).2.1 := b83
        obtain ⟨c83, t83, k83⟩ := a83b hq
        have htp83 := tpR_of htp ht o83 (by decide)
        refine t_ifne (t := 91) dX5_readUnit_86 (by decide) (fun h86 => ?_) (fun h86 => False.elim (by omega))
        refine r_aloadR0 dX5_readUnit_91 ?_
        refine q_callV0 zm_RX5_188 dX5_readUnit_92 hr.1 (by decide) rfl (Nat.le_of_ble_eq_true rfl) (Nat.le_of_ble_eq_true rfl) (Nat.le_of_ble_eq_true rfl) (Nat.le_of_ble_eq_true rfl) (Nat.le_of_ble_eq_true rfl) (s_X5_comparing (n := n) (B := B) (s := (smP B n (if lm = 5 then 8 else 6) 1 p).2.1) G hr t83 (fun r92 a92 b92 => ?_))
        have e92_z := b92 hop
        refine r_istore2 dX5_readUnit_95 rfl ?_
        refine r_iload2 dX5_readUnit_96 ?_
        refine n_iconst dX5_readUnit_97 (by decide) (fun r97 e97_z => ?_)
        refine t_icne (t := 106) dX5_readUnit_98 (by decide) (fun h98 => ?_) (fun h98 => False.elim (by omega))
        refine r_aloadR0 dX5_readUnit_106 ?_
        refine q_callV0 zm_RX5_73 dX5_readUnit_107 hr.1 (by decide) rfl (Nat.le_of_ble_eq_true rfl) (Nat.le_of_ble_eq_true rfl) (Nat.le_of_ble_eq_true rfl) (Nat.le_of_ble_eq_true rfl) (Nat.le_of_ble_eq_true rfl) (s_X5_next (p := teP B n (smP B n (if lm = 5 then 8 else 6) 1 p).2.1) G hr kw ko htp83 t83.2.1 (teP_le t83.1) t83.2.2.2.2.2.2 (fun v107 g107 o107 t107 => ?_))
        have t107 : tkR ca B n g107 v107 A (nxP B n (smP B n (if lm = 5 then 8 else 6) 1 p).2.1) := t107
        have htpn := tpR_of htp83 ht o107 (by decide)
        have wn : g107 (A + 8) = g83 (A + 8) := o107.2.1 8 (by decide) (by decide) (by decide)
        refine r_aloadR0 dX5_readUnit_110 ?_
        refine r_iload1 dX5_readUnit_111 ?_
        refine q_callV1 zm_RX5_146 dX5_readUnit_112 hr.1 (by decide) rfl (Nat.le_of_ble_eq_true rfl) (Nat.le_of_ble_eq_true rfl) (Nat.le_of_ble_eq_true rfl) (Nat.le_of_ble_eq_true rfl) (Nat.le_of_ble_eq_true rfl) (s_X5_readSum_1 (lm := lm) (u := u + (smP B n (if lm = 5 then 8 else 6) 1 p).2.2.length) G hr kw ko htpn t107 hx (by rw [o107.2.2 10 (by decide), o83.2.2 10 (by decide)]; exact hol) (by rw [o107.2.2 9 (by decide)]; exact k83.1) (by omega) (fun rs vs gs os as bs => ?_))
        have as2 : (smP B n (if lm = 5 then 8 else 6) 1 (nxP B n (smP B n (if lm = 5 then 8 else 6) 1 p).2.1)).1 = 0 → rs.toInt = 1 ∧ tkR ca B n gs vs A (smP B n (if lm = 5 then 8 else 6) 1 (nxP B n (smP B n (if lm = 5 then 8 else 6) 1 p).2.1)).2.1 ∧ okR g107 gs A (u + (smP B n (if lm = 5 then 8 else 6) 1 p).2.2.length) (smP B n (if lm = 5 then 8 else 6) 1 (nxP B n (smP B n (if lm = 5 then 8 else 6) 1 p).2.1)).2.2 := as
        have bs2 : (smP B n (if lm = 5 then 8 else 6) 1 (nxP B n (smP B n (if lm = 5 then 8 else 6) 1 p).2.1)).1 ≠ 0 → rs.toInt = 0 ∧ flR gs A (smP B n (if lm = 5 then 8 else 6) 1 (nxP B n (smP B n (if lm = 5 then 8 else 6) 1 p).2.1)).1 (smP B n (if lm = 5 then 8 else 6) 1 (nxP B n (smP B n (if lm = 5 then 8 else 6) 1 p).2.1)).2.1 := bs
        have ofs : frM A [8] [2, 3, 4, 5, 9, 11, 12] f gs := frM_tr o83 (frM_tr (frM_su o107 (by decide) (by decide)) os)
        obtain ⟨cs, ts, ks⟩ := as2 hq2
        refine t_ifne (t := 120) dX5_readUnit_115 (by decide) (fun h115 => ?_) (fun h115 => False.elim (by omega))
        refine r_aloadR0 dX5_readUnit_120 ?_
        refine r_iload2 dX5_readUnit_121 ?_
        refine q_callV1 zm_RX5_173 dX5_readUnit_122 hr.1 (by decide) rfl (Nat.le_of_ble_eq_true rfl) (Nat.le_of_ble_eq_true rfl) (Nat.le_of_ble_eq_true rfl) (Nat.le_of_ble_eq_true rfl) (Nat.le_of_ble_eq_true rfl) (s_X5_emit (u := u + (smP B n (if lm = 5 then 8 else 6) 1 p).2.2.length + (smP B n (if lm = 5 then 8 else 6) 1 (nxP B n (smP B n (if lm = 5 then 8 else 6) 1 p).2.1)).2.2.length) G hr ks.1 (by omega) (fun g122 o122 a122 b122 c122 => ?_))
        refine n_iconst dX5_readUnit_125 (by decide) (fun r125 e125_z => ?_)
        refine m_zret dX5_readUnit_126 rfl (by omega) (Nat.le_of_ble_eq_true rfl) (Nat.le_of_ble_eq_true rfl) ?_
        refine hQ _ _ g122 (frM_tr ofs (frM_su o122 (by decide) (by decide))) (fun _ => ⟨e125_z, tkR_of ts o122 (by decide) (by decide) (by decide) (by decide), okR_ap (okR_ap k83 (okR_cg ks wn rfl rfl)) ?_⟩) (fun h_z => absurd rfl h_z)
        rw [List.length_append, ← Nat.add_assoc]
        exact okR_one a122 b122 c122 e92_z
      · have hv : cmP B n (smP B n (if lm = 5 then 8 else 6) 1) p = (smP B n (if lm = 5 then 8 else 6) 1 (nxP B n (smP B n (if lm = 5 then 8 else 6) 1 p).2.1)) := (if_neg (not_not_intro hq)).trans ((if_neg hop).trans (if_pos hq2))
        rw [hv] at hQ
        refine r_aloadR0 dX5_readUnit_0 ?_
        refine k_gets (ko.2.1 ("NOT", 8) (List.mem_of_getElem? (i := 4) rfl)) zg_RX5_182 dX5_readUnit_1 ?_
        refine q_callV1 zm_RX5_170 dX5_readUnit_4 hr.1 (by decide) rfl (Nat.le_of_ble_eq_true rfl) (Nat.le_of_ble_eq_true rfl) (Nat.le_of_ble_eq_true rfl) (Nat.le_of_ble_eq_true rfl) (Nat.le_of_ble_eq_true rfl) (s_X5_isWord (i := 8) G hr kw ko (by decide) htk (fun r4 e4_z => ?_))
        have e4b : r4.toInt = 0 := e4_z.elim (fun h_z => absurd h_z.2 hw) (fun h_z => h_z.1)
        refine t_ifeq (t := 39) dX5_readUnit_7 (by decide) (fun h7 => ?_) (fun h7 => False.elim (by omega))
        refine r_aloadR0 dX5_readUnit_39 ?_
        refine m_getV (x := (f A 4)) zf_RX5_25 rfl dX5_readUnit_40 hr.1 (rfl) ?_
        refine n_bipush dX5_readUnit_43 (by decide) (fun r43 e43 => ?_)
        refine t_icne (t := 81) dX5_readUnit_45 (by decide) (fun h45 => ?_) (fun h45 => False.elim (by omega))
        refine r_aloadR0 dX5_readUnit_81 ?_
        refine r_iload1 dX5_readUnit_82 ?_
        refine q_callV1 zm_RX5_146 dX5_readUnit_83 hr.1 (by decide) rfl (Nat.le_of_ble_eq_true rfl) (Nat.le_of_ble_eq_true rfl) (Nat.le_of_ble_eq_true rfl) (Nat.le_of_ble_eq_true rfl) (Nat.le_of_ble_eq_true rfl) (s_X5_readSum_1 (lm := lm) (u := u) G hr kw ko htp htk hx hol hu hup (fun r83 v83 g83 o83 a83 b83 => ?_))
        have a83b : (smP B n (if lm = 5 then 8 else 6) 1 p).1 = 0 → r83.toInt = 1 ∧ tkR ca B n g83 v83 A (smP B n (if lm = 5 then 8 else 6) 1 p).2.1 ∧ okR f g83 A u (smP B n (if lm = 5 then 8 else 6) 1 p).2.2 := a83
        have b83b : (smP B n (if lm = 5 then 8 else 6) 1 p).1 ≠ 0 → r83.toInt = 0 ∧ flR g83 A (smP B n (if lm = 5 then 8 else 6) 1 p).1 (smP B n (if lm = 5 then 8 else 6) 1 p).2.1 := b83
        obtain ⟨c83, t83, k83⟩ := a83b hq
        have htp83 := tpR_of htp ht o83 (by decide)
        refine t_ifne (t := 91) dX5_readUnit_86 (by decide) (fun h86 => ?_) (fun h86 => False.elim (by omega))
        refine r_aloadR0 dX5_readUnit_91 ?_
        refine q_callV0 zm_RX5_188 dX5_readUnit_92 hr.1 (by decide) rfl (Nat.le_of_ble_eq_true rfl) (Nat.le_of_ble_eq_true rfl) (Nat.le_of_ble_eq_true rfl) (Nat.le_of_ble_eq_true rfl) (Nat.le_of_ble_eq_true rfl) (s_X5_comparing (n := n) (B := B) (s := (smP B n (if lm = 5 then 8 else 6) 1 p).2.1) G hr t83 (fun r92 a92 b92 => ?_))
        have e92_z := b92 hop
        refine r_istore2 dX5_readUnit_95 rfl ?_
        refine r_iload2 dX5_readUnit_96 ?_
        refine n_iconst dX5_readUnit_97 (by decide) (fun r97 e97_z => ?_)
        refine t_icne (t := 106) dX5_readUnit_98 (by decide) (fun h98 => ?_) (fun h98 => False.elim (by omega))
        refine r_aloadR0 dX5_readUnit_106 ?_
        refine q_callV0 zm_RX5_73 dX5_readUnit_107 hr.1 (by decide) rfl (Nat.le_of_ble_eq_true rfl) (Nat.le_of_ble_eq_true rfl) (Nat.le_of_ble_eq_true rfl) (Nat.le_of_ble_eq_true rfl) (Nat.le_of_ble_eq_true rfl) (s_X5_next (p := teP B n (smP B n (if lm = 5 then 8 else 6) 1 p).2.1) G hr kw ko htp83 t83.2.1 (teP_le t83.1) t83.2.2.2.2.2.2 (fun v107 g107 o107 t107 => ?_))
        have t107 : tkR ca B n g107 v107 A (nxP B n (smP B n (if lm = 5 then 8 else 6) 1 p).2.1) := t107
        have htpn := tpR_of htp83 ht o107 (by decide)
        have wn : g107 (A + 8) = g83 (A + 8) := o107.2.1 8 (by decide) (by decide) (by decide)
        refine r_aloadR0 dX5_readUnit_110 ?_
        refine r_iload1 dX5_readUnit_111 ?_
        refine q_callV1 zm_RX5_146 dX5_readUnit_112 hr.1 (by decide) rfl (Nat.le_of_ble_eq_true rfl) (Nat.le_of_ble_eq_true rfl) (Nat.le_of_ble_eq_true rfl) (Nat.le_of_ble_eq_true rfl) (Nat.le_of_ble_eq_true rfl) (s_X5_readSum_1 (lm := lm) (u := u + (smP B n (if lm = 5 then 8 else 6) 1 p).2.2.length) G hr kw ko htpn t107 hx (by rw [o107.2.2 10 (by decide), o83.2.2 10 (by decide)]; exact hol) (by rw [o107.2.2 9 (by decide)]; exact k83.1) (by omega) (fun rs vs gs os as bs => ?_))
        have as2 : (smP B n (if lm = 5 then 8 else 6) 1 (nxP B n (smP B n (if lm = 5 then 8 else 6) 1 p).2.1)).1 = 0 → rs.toInt = 1 ∧ tkR ca B n gs vs A (smP B n (if lm = 5 then 8 else 6) 1 (nxP B n (smP B n (if lm = 5 then 8 else 6) 1 p).2.1)).2.1 ∧ okR g107 gs A (u + (smP B n (if lm = 5 then 8 else 6) 1 p).2.2.length) (smP B n (if lm = 5 then 8 else 6) 1 (nxP B n (smP B n (if lm = 5 then 8 else 6) 1 p).2.1)).2.2 := as
        have bs2 : (smP B n (if lm = 5 then 8 else 6) 1 (nxP B n (smP B n (if lm = 5 then 8 else 6) 1 p).2.1)).1 ≠ 0 → rs.toInt = 0 ∧ flR gs A (smP B n (if lm = 5 then 8 else 6) 1 (nxP B n (smP B n (if lm = 5 then 8 else 6) 1 p).2.1)).1 (smP B n (if lm = 5 then 8 else 6) 1 (nxP B n (smP B n (if lm = 5 then 8 else 6) 1 p).2.1)).2.1 := bs
        have ofs : frM A [8] [2, 3, 4, 5, 9, 11, 12] f gs := frM_tr o83 (frM_tr (frM_su o107 (by decide) (by decide)) os)
        obtain ⟨cs, ls⟩ := bs2 hq2
        refine t_ifne (t := 120) dX5_readUnit_115 (by decide) (fun h115 => False.elim (by omega)) (fun h115 => ?_)
        refine n_iconst dX5_readUnit_118 (by decide) (fun r118 e118_z => ?_)
        refine m_zret dX5_readUnit_119 rfl (by omega) (Nat.le_of_ble_eq_true rfl) (Nat.le_of_ble_eq_true rfl) ?_
        exact hQ _ _ gs ofs (fun h_z => absurd h_z hq2) (fun _ => ⟨e118_z, ls⟩)
  · have hv : cmP B n (smP B n (if lm = 5 then 8 else 6) 1) p = (smP B n (if lm = 5 then 8 else 6) 1 p) := if_pos hq
    rw [hv] at hQ
    refine r_aloadR0 dX5_readUnit_0 ?_
    refine k_gets (ko.2.1 ("NOT", 8) (List.mem_of_getElem? (i := 4) rfl)) zg_RX5_182 dX5_readUnit_1 ?_
    refine q_callV1 zm_RX5_170 dX5_readUnit_4 hr.1 (by decide) rfl (Nat.le_of_ble_eq_true rfl) (Nat.le_of_ble_eq_true rfl) (Nat.le_of_ble_eq_true rfl) (Nat.le_of_ble_eq_true rfl) (Nat.le_of_ble_eq_true rfl) (s_X5_isWord (i := 8) G hr kw ko (by decide) htk (fun r4 e4_z => ?_))
    have e4b : r4.toInt = 0 := e4_z.elim (fun h_z => absurd h_z.2 hw) (fun h_z => h_z.1)
    refine t_ifeq (t := 39) dX5_readUnit_7 (by decide) (fun h7 => ?_) (fun h7 => False.elim (by omega))
    refine r_aloadR0 dX5_readUnit_39 ?_
    refine m_getV (x := (f A 4)) zf_RX5_25 rfl dX5_readUnit_40 hr.1 (rfl) ?_
    refine n_bipush dX5_readUnit_43 (by decide) (fun r43 e43 => ?_)
    refine t_icne (t := 81) dX5_readUnit_45 (by decide) (fun h45 => ?_) (fun h45 => False.elim (by omega))
    refine r_aloadR0 dX5_readUnit_81 ?_
    refine r_iload1 dX5_readUnit_82 ?_
    refine q_callV1 zm_RX5_146 dX5_readUnit_83 hr.1 (by decide) rfl (Nat.le_of_ble_eq_true rfl) (Nat.le_of_ble_eq_true rfl) (Nat.le_of_ble_eq_true rfl) (Nat.le_of_ble_eq_true rfl) (Nat.le_of_ble_eq_true rfl) (s_X5_readSum_1 (lm := lm) (u := u) G hr kw ko htp htk hx hol hu hup (fun r83 v83 g83 o83 a83 b83 => ?_))
    have a83b : (smP B n (if lm = 5 then 8 else 6) 1 p).1 = 0 → r83.toInt = 1 ∧ tkR ca B n g83 v83 A (smP B n (if lm = 5 then 8 else 6) 1 p).2.1 ∧ okR f g83 A u (smP B n (if lm = 5 then 8 else 6) 1 p).2.2 := a83
    have b83b : (smP B n (if lm = 5 then 8 else 6) 1 p).1 ≠ 0 → r83.toInt = 0 ∧ flR g83 A (smP B n (if lm = 5 then 8 else 6) 1 p).1 (smP B n (if lm = 5 then 8 else 6) 1 p).2.1 := b83
    obtain ⟨c83, l83⟩ := b83b hq
    refine t_ifne (t := 91) dX5_readUnit_86 (by decide) (fun h86 => False.elim (by omega)) (fun h86 => ?_)
    refine n_iconst dX5_readUnit_89 (by decide) (fun r89 e89 => ?_)
    refine m_zret dX5_readUnit_90 rfl (by omega) (Nat.le_of_ble_eq_true rfl) (Nat.le_of_ble_eq_true rfl) ?_
    exact hQ _ _ g83 o83 (fun h_z => absurd h_z hq) (fun _ => ⟨e89, l83⟩)
set_option maxHeartbeats 4000000 in
set_option maxRecDepth 100000 in
theorem s_X5_readBoth_1 {g : zGT} {w : zW} {f : Nat → Nat → Int32} {j : Nat → Nat → Int64} {A tq nq : Nat} {v : Option Nat} {B : Nat → Nat} {n : Nat} {ca wa wv : Nat → Nat} {kq ta sm gq gv : Nat} {p lm u : Nat} {x : Int32} {Q : Option Value → zW → Prop} {QX : String → zW → Prop} (G : zGok g) (hr : shRd w A tq nq) (kw : kWd g wa wv kq) (ko : kWo g ca wa wv ta sm gq gv) (htp : tpR B n f A tq) (htk : tkR ca B n f v A p) (hx : x.toInt = 5) (hol : (f A 10).toInt = if lm = 5 then 1 else 0) (hu : (f A 9).toInt = (u : Nat)) (hup : u ≤ p) (hQ : ∀ (b : Int32) v2 f2_z, frM A [8] [2, 3, 4, 5, 9, 11, 12] f f2_z → ((chP B n (unP B n (if lm = 5 then 8 else 6) 1) (opA B n) p).1 = 0 → b.toInt = 1 ∧ tkR ca B n f2_z v2 A (chP B n (unP B n (if lm = 5 then 8 else 6) 1) (opA B n) p).2.1 ∧ okR f f2_z A u (chP B n (unP B n (if lm = 5 then 8 else 6) 1) (opA B n) p).2.2) → ((chP B n (unP B n (if lm = 5 then 8 else 6) 1) (opA B n) p).1 ≠ 0 → b.toInt = 0 ∧ flR f2_z A (chP B n (unP B n (if lm = 5 then 8 else 6) 1) (opA B n) p).1 (chP B n (unP B n (if lm = 5 then 8 else 6) 1) (opA B n) p).2.1) → Q (some (.int b)) (zM (wW w A v2) f2_z j)) : zC g 45 yX5_readBoth cX5_readBoth 3 (some .boolean) [.ref A, .int x] (zM (wW w A v) f j) (0, 0) Q QX := by
  refine zC_of G (by decide +kernel) (Nat.le_of_ble_eq_true rfl) ?_
  have ht := hr.2.2.2.2.2.2
  have h4 := htk.2.2.2.1
  have hpn := htk.1
  have h900 := htp.2.1
  have hgd : ∀ s, s ≤ n → gdP n true (if lm = 5 then 8 else 6) (4 + 2 * 1) s ((unP B n (if lm = 5 then 8 else 6) 1) s) := gd_un (by split <;> decide) 1
  have lp : ∀ (mz : Nat) (uu : Int32) (i : Nat) (k : Nat) (ps : Nat) (c : List Nat) (f2_z : Nat → Nat → Int32) (vv : Option Nat), uu.toInt = (i : Nat) → frM A [8] [2, 3, 4, 5, 9, 11, 12] f f2_z → tkR ca B n f2_z vv A ps → okR f f2_z A u c → p + i < ps → ps ≤ n → c.length + p ≤ ps → n ≤ k + ps → lpP B n (unP B n (if lm = 5 then 8 else 6) 1) (opA B n) k (0, ps, c) = chP B n (unP B n (if lm = 5 then 8 else 6) 1) (opA B n) p → k < mz → zR (zV g 45 yX5_readBoth 3 (some .boolean) (0, 0) Q QX) cX5_readBoth yX5_readBoth.cls 12 [some (.ref A), some (.int x), some (.int uu)] [] (zM (wW w A vv) f2_z j) (0, 0) := by
    intro mz
    induction mz with
    | zero =>
      intro uu i k ps c f2_z vv hui ofr htk2 hok hpi hps hcl hnk hR hmz
      exact absurd hmz (Nat.not_lt_zero _)
    | succ mz ih =>
      intro uu i k ps c f2_z vv hui ofr htk2 hok hpi hps hcl hnk hR hmz
      have htp2 := tpR_of htp ht ofr (by decide)
      have h1 := htp2.1
      have htk4 := htk2.2.2.2.1
      have hi9 : i < n := by omega
      by_cases hc_z : isWd B n ps 7 = true
      · have hop : (opA B n) ps = 2001 := if_pos hc_z
        have hop0 : (opA B n) ps ≠ 0 := by rw [hop]; decide
        have hln := tk_lt (B := B) (n := n) (s := ps) (by rw [(isWd_tk hc_z).1]; decide)
        obtain ⟨k2_z, rfl⟩ : ∃ k2_z, k = k2_z + 1 := ⟨k - 1, by omega⟩
        have hnx := nxP_gt (B := B) hln
        have gq := hgd _ hnx.2
        by_cases hq : ((unP B n (if lm = 5 then 8 else 6) 1) (nxP B n ps)).1 = 0
        · obtain ⟨y1, y2, y3, y4⟩ := gq.1 hq
          refine r_iload2 dX5_readBoth_12 ?_
          refine r_aloadR0 dX5_readBoth_13 ?_
          refine m_getV (x := (f2_z A 1)) zf_RX5_15 rfl dX5_readBoth_14 hr.1 (rfl) ?_
          refine t_icge (t := 57) dX5_readBoth_17 (by decide) (fun h17 => False.elim (by omega)) (fun h17 => ?_)
          refine r_aloadR0 dX5_readBoth_20 ?_
          refine k_gets (ko.2.1 ("AND", 7) (List.mem_of_getElem? (i := 7) rfl)) zg_RX5_179 dX5_readBoth_21 ?_
          refine q_callV1 zm_RX5_170 dX5_readBoth_24 hr.1 (by decide) rfl (Nat.le_of_ble_eq_true rfl) (Nat.le_of_ble_eq_true rfl) (Nat.le_of_ble_eq_true rfl) (Nat.le_of_ble_eq_true rfl) (Nat.le_of_ble_eq_true rfl) (s_X5_isWord (i := 7) G hr kw ko (by decide) htk2 (fun r24 e24_z => ?_))
          have e24b : r24.toInt = 1 := e24_z.elim (fun h_z => h_z.1) (fun h_z => absurd hc_z h_z.2)
          refine t_ifeq (t := 57) dX5_readBoth_27 (by decide) (fun h27 => False.elim (by omega)) (fun h27 => ?_)
          refine r_aloadR0 dX5_readBoth_30 ?_
          refine q_callV0 zm_RX5_73 dX5_readBoth_31 hr.1 (by decide) rfl (Nat.le_of_ble_eq_true rfl) (Nat.le_of_ble_eq_true rfl) (Nat.le_of_ble_eq_true rfl) (Nat.le_of_ble_eq_true rfl) (Nat.le_of_ble_eq_true rfl) (s_X5_next (p := teP B n ps) G hr kw ko htp2 htk2.2.1 (teP_le htk2.1) htk2.2.2.2.2.2.2 (fun v31 g31 o31 t31 => ?_))
          have t31 : tkR ca B n g31 v31 A (nxP B n ps) := t31
          have htpn := tpR_of htp2 ht o31 (by decide)
          have wn : g31 (A + 8) = f2_z (A + 8) := o31.2.1 8 (by decide) (by decide) (by decide)
          refine r_aloadR0 dX5_readBoth_34 ?_
          refine r_iload1 dX5_readBoth_35 ?_
          refine q_callV1 zm_RX5_176 dX5_readBoth_36 hr.1 (by decide) rfl (Nat.le_of_ble_eq_true rfl) (Nat.le_of_ble_eq_true rfl) (Nat.le_of_ble_eq_true rfl) (Nat.le_of_ble_eq_true rfl) (Nat.le_of_ble_eq_true rfl) (s_X5_readUnit_1 (lm := lm) (u := u + c.length) G hr kw ko htpn t31 hx (by rw [o31.2.2 10 (by decide), ofr.2.2 10 (by decide)]; exact hol) (by rw [o31.2.2 9 (by decide)]; exact hok.1) (by omega) (fun rs vs gs os as bs => ?_))
          have as2 : ((unP B n (if lm = 5 then 8 else 6) 1) (nxP B n ps)).1 = 0 → rs.toInt = 1 ∧ tkR ca B n gs vs A ((unP B n (if lm = 5 then 8 else 6) 1) (nxP B n ps)).2.1 ∧ okR g31 gs A (u + c.length) ((unP B n (if lm = 5 then 8 else 6) 1) (nxP B n ps)).2.2 := as
          have bs2 : ((unP B n (if lm = 5 then 8 else 6) 1) (nxP B n ps)).1 ≠ 0 → rs.toInt = 0 ∧ flR gs A ((unP B n (if lm = 5 then 8 else 6) 1) (nxP B n ps)).1 ((unP B n (if lm = 5 then 8 else 6) 1) (nxP B n ps)).2.1 := bs
          have ofs : frM A [8] [2, 3, 4, 5, 9, 11, 12] f gs := frM_tr ofr (frM_tr (frM_su o31 (by decide) (by decide)) os)
          obtain ⟨cs, ts, ks⟩ := as2 hq
          refine t_ifne (t := 44) dX5_readBoth_39 (by decide) (fun h39 => ?_) (fun h39 => False.elim (by omega))
          refine r_aloadR0 dX5_readBoth_44 ?_
          refine n_sipush dX5_readBoth_45 (by decide) (fun r45 e45 => ?_)
          refine q_callV1 zm_RX5_173 dX5_readBoth_48 hr.1 (by decide) rfl (Nat.le_of_ble_eq_true rfl) (Nat.le_of_ble_eq_true rfl) (Nat.le_of_ble_eq_true rfl) (Nat.le_of_ble_eq_true rfl) (Nat.le_of_ble_eq_true rfl) (s_X5_emit (u := u + c.length + ((unP B n (if lm = 5 then 8 else 6) 1) (nxP B n ps)).2.2.length) G hr ks.1 (by omega) (fun g48 o48 a48 b48 c48 => ?_))
          refine n_iinc2 dX5_readBoth_51 (by decide) rfl (by omega) (fun r51 e51 => ?_)
          refine r_goto (t := 12) dX5_readBoth_54 (by decide) ?_
          refine ih _ (i + 1) k2_z ((unP B n (if lm = 5 then 8 else 6) 1) (nxP B n ps)).2.1 (c ++ ((unP B n (if lm = 5 then 8 else 6) 1) (nxP B n ps)).2.2 ++ [(opA B n) ps]) g48 _ (by omega) (frM_tr ofs (frM_su o48 (by decide) (by decide))) (tkR_of ts o48 (by decide) (by decide) (by decide) (by decide)) (okR_ap (okR_ap hok (okR_cg ks wn rfl rfl)) ?_) (by omega) y2 ?_ (by omega) ?_ (by omega)
          · rw [List.length_append, ← Nat.add_assoc, hop]
            exact okR_one a48 b48 c48 (by omega)
          · rw [List.length_append, List.length_append, List.length_singleton]
            omega
          · exact (lpP_on (r := (0, ps, c)) rfl hop0 hq).symm.trans hR
        · have hv : ((unP B n (if lm = 5 then 8 else 6) 1) (nxP B n ps)) = chP B n (unP B n (if lm = 5 then 8 else 6) 1) (opA B n) p := (lpP_sub (k := k2_z) (r := (0, ps, c)) rfl hop0 hq).symm.trans hR
          refine r_iload2 dX5_readBoth_12 ?_
          refine r_aloadR0 dX5_readBoth_13 ?_
          refine m_getV (x := (f2_z A 1)) zf_RX5_15 rfl dX5_readBoth_14 hr.1 (rfl) ?_
          refine t_icge (t := 57) dX5_readBoth_17 (by decide) (fun h17 => False.elim (by omega)) (fun h17 => ?_)
          refine r_aloadR0 dX5_readBoth_20 ?_
          refine k_gets (ko.2.1 ("AND", 7) (List.mem_of_getElem? (i := 7) rfl)) zg_RX5_179 dX5_readBoth_21 ?_
          refine q_callV1 zm_RX5_170 dX5_readBoth_24 hr.1 (by decide) rfl (Nat.le_of_ble_eq_true rfl) (Nat.le_of_ble_eq_true rfl) (Nat.le_of_ble_eq_true rfl) (Nat.le_of_ble_eq_true rfl) (Nat.le_of_ble_eq_true rfl) (s_X5_isWord (i := 7) G hr kw ko (by decide) htk2 (fun r24 e24_z => ?_))
          have e24b : r24.toInt = 1 := e24_z.elim (fun h_z => h_z.1) (fun h_z => absurd hc_z h_z.2)
          refine t_ifeq (t := 57) dX5_readBoth_27 (by decide) (fun h27 => False.elim (by omega)) (fun h27 => ?_)
          refine r_aloadR0 dX5_readBoth_30 ?_
          refine q_callV0 zm_RX5_73 dX5_readBoth_31 hr.1 (by decide) rfl (Nat.le_of_ble_eq_true rfl) (Nat.le_of_ble_eq_true rfl) (Nat.le_of_ble_eq_true rfl) (Nat.le_of_ble_eq_true rfl) (Nat.le_of_ble_eq_true rfl) (s_X5_next (p := teP B n ps) G hr kw ko htp2 htk2.2.1 (teP_le htk2.1) htk2.2.2.2.2.2.2 (fun v31 g31 o31 t31 => ?_))
          have t31 : tkR ca B n g31 v31 A (nxP B n ps) := t31
          have htpn := tpR_of htp2 ht o31 (by decide)
          have wn : g31 (A + 8) = f2_z (A + 8) := o31.2.1 8 (by decide) (by decide) (by decide)
          refine r_aloadR0 dX5_readBoth_34 ?_
          refine r_iload1 dX5_readBoth_35 ?_
          refine q_callV1 zm_RX5_176 dX5_readBoth_36 hr.1 (by decide) rfl (Nat.le_of_ble_eq_true rfl) (Nat.le_of_ble_eq_true rfl) (Nat.le_of_ble_eq_true rfl) (Nat.le_of_ble_eq_true rfl) (Nat.le_of_ble_eq_true rfl) (s_X5_readUnit_1 (lm := lm) (u := u + c.length) G hr kw ko htpn t31 hx (by rw [o31.2.2 10 (by decide), ofr.2.2 10 (by decide)]; exact hol) (by rw [o31.2.2 9 (by decide)]; exact hok.1) (by omega) (fun rs vs gs os as bs => ?_))
          have as2 : ((unP B n (if lm = 5 then 8 else 6) 1) (nxP B n ps)).1 = 0 → rs.toInt = 1 ∧ tkR ca B n gs vs A ((unP B n (if lm = 5 then 8 else 6) 1) (nxP B n ps)).2.1 ∧ okR g31 gs A (u + c.length) ((unP B n (if lm = 5 then 8 else 6) 1) (nxP B n ps)).2.2 := as
          have bs2 : ((unP B n (if lm = 5 then 8 else 6) 1) (nxP B n ps)).1 ≠ 0 → rs.toInt = 0 ∧ flR gs A ((unP B n (if lm = 5 then 8 else 6) 1) (nxP B n ps)).1 ((unP B n (if lm = 5 then 8 else 6) 1) (nxP B n ps)).2.1 := bs
          have ofs : frM A [8] [2, 3, 4, 5, 9, 11, 12] f gs := frM_tr ofr (frM_tr (frM_su o31 (by decide) (by decide)) os)
          obtain ⟨cs, ls⟩ := bs2 hq
          refine t_ifne (t := 44) dX5_readBoth_39 (by decide) (fun h39 => False.elim (by omega)) (fun h39 => ?_)
          refine n_iconst dX5_readBoth_42 (by decide) (fun r42 e42_z => ?_)
          refine m_zret dX5_readBoth_43 rfl (by omega) (Nat.le_of_ble_eq_true rfl) (Nat.le_of_ble_eq_true rfl) ?_
          rw [← hv] at hQ
          exact hQ _ _ gs ofs (fun h_z => absurd h_z hq) (fun _ => ⟨e42_z, ls⟩)
      have hop : (opA B n) ps = 0 := if_neg hc_z
      have hv := (lpP_end (B := B) (n := n) (k := k) (sub := (unP B n (if lm = 5 then 8 else 6) 1)) (r := (0, ps, c)) hop).symm.trans hR
      refine r_iload2 dX5_readBoth_12 ?_
      refine r_aloadR0 dX5_readBoth_13 ?_
      refine m_getV (x := (f2_z A 1)) zf_RX5_15 rfl dX5_readBoth_14 hr.1 (rfl) ?_
      refine t_icge (t := 57) dX5_readBoth_17 (by decide) (fun h17 => False.elim (by omega)) (fun h17 => ?_)
      refine r_aloadR0 dX5_readBoth_20 ?_
      refine k_gets (ko.2.1 ("AND", 7) (List.mem_of_getElem? (i := 7) rfl)) zg_RX5_179 dX5_readBoth_21 ?_
      refine q_callV1 zm_RX5_170 dX5_readBoth_24 hr.1 (by decide) rfl (Nat.le_of_ble_eq_true rfl) (Nat.le_of_ble_eq_true rfl) (Nat.le_of_ble_eq_true rfl) (Nat.le_of_ble_eq_true rfl) (Nat.le_of_ble_eq_true rfl) (s_X5_isWord (i := 7) G hr kw ko (by decide) htk2 (fun r24 e24_z => ?_))
      have e24b : r24.toInt = 0 := e24_z.elim (fun h_z => absurd h_z.2 hc_z) (fun h_z => h_z.1)
      refine t_ifeq (t := 57) dX5_readBoth_27 (by decide) (fun h27 => ?_) (fun h27 => False.elim (by omega))
      refine n_iconst dX5_readBoth_57 (by decide) (fun r57 e57 => ?_)
      refine m_zret dX5_readBoth_58 rfl (by omega) (Nat.le_of_ble_eq_true rfl) (Nat.le_of_ble_eq_true rfl) ?_
      rw [← hv] at hQ
      exact hQ _ _ f2_z ofr (fun _ => ⟨e57, htk2, hok⟩) (fun h_z => absurd rfl h_z)
  have gp := hgd p hpn
  by_cases hq : ((unP B n (if lm = 5 then 8 else 6) 1) p).1 = 0
  · obtain ⟨y1, y2, y3, y4⟩ := gp.1 hq
    have hz : ((unP B n (if lm = 5 then 8 else 6) 1) p) = (0, ((unP B n (if lm = 5 then 8 else 6) 1) p).2.1, ((unP B n (if lm = 5 then 8 else 6) 1) p).2.2) := Prod.ext hq rfl
    refine r_aloadR0 dX5_readBoth_0 ?_
    refine r_iload1 dX5_readBoth_1 ?_
    refine q_callV1 zm_RX5_176 dX5_readBoth_2 hr.1 (by decide) rfl (Nat.le_of_ble_eq_true rfl) (Nat.le_of_ble_eq_true rfl) (Nat.le_of_ble_eq_true rfl) (Nat.le_of_ble_eq_true rfl) (Nat.le_of_ble_eq_true rfl) (s_X5_readUnit_1 G hr kw ko htp htk hx hol hu hup (fun r2 v2 g2 o2 a2 b2 => ?_))
    have a2b : ((unP B n (if lm = 5 then 8 else 6) 1) p).1 = 0 → r2.toInt = 1 ∧ tkR ca B n g2 v2 A ((unP B n (if lm = 5 then 8 else 6) 1) p).2.1 ∧ okR f g2 A u ((unP B n (if lm = 5 then 8 else 6) 1) p).2.2 := a2
    have b2b : ((unP B n (if lm = 5 then 8 else 6) 1) p).1 ≠ 0 → r2.toInt = 0 ∧ flR g2 A ((unP B n (if lm = 5 then 8 else 6) 1) p).1 ((unP B n (if lm = 5 then 8 else 6) 1) p).2.1 := b2
    obtain ⟨c2_z, t2, k2_z⟩ := a2b hq
    refine t_ifne (t := 10) dX5_readBoth_5 (by decide) (fun h5 => ?_) (fun h5 => False.elim (by omega))
    refine n_iconst dX5_readBoth_10 (by decide) (fun r10 e10_z => ?_)
    refine r_istore2 dX5_readBoth_11 rfl ?_
    exact lp (n + 1) _ 0 n ((unP B n (if lm = 5 then 8 else 6) 1) p).2.1 ((unP B n (if lm = 5 then 8 else 6) 1) p).2.2 g2 _ (by omega) o2 t2 k2_z (by omega) y2 y3 (by omega) (by rw [← hz]; rfl) (Nat.lt_succ_self n)
  · have hv : chP B n (unP B n (if lm = 5 then 8 else 6) 1) (opA B n) p = ((unP B n (if lm = 5 then 8 else 6) 1) p) := lpP_bad hq
    rw [hv] at hQ
    refine r_aloadR0 dX5_readBoth_0 ?_
    refine r_iload1 dX5_readBoth_1 ?_
    refine q_callV1 zm_RX5_176 dX5_readBoth_2 hr.1 (by decide) rfl (Nat.le_of_ble_eq_true rfl) (Nat.le_of_ble_eq_true rfl) (Nat.le_of_ble_eq_true rfl) (Nat.le_of_ble_eq_true rfl) (Nat.le_of_ble_eq_true rfl) (s_X5_readUnit_1 G hr kw ko htp htk hx hol hu hup (fun r2 v2 g2 o2 a2 b2 => ?_))
    have a2b : ((unP B n (if lm = 5 then 8 else 6) 1) p).1 = 0 → r2.toInt = 1 ∧ tkR ca B n g2 v2 A ((unP B n (if lm = 5 then 8 else 6) 1) p).2.1 ∧ okR f g2 A u ((unP B n (if lm = 5 then 8 else 6) 1) p).2.2 := a2
    have b2b : ((unP B n (if lm = 5 then 8 else 6) 1) p).1 ≠ 0 → r2.toInt = 0 ∧ flR g2 A ((unP B n (if lm = 5 then 8 else 6) 1) p).1 ((unP B n (if lm = 5 then 8 else 6) 1) p).2.1 := b2
    obtain ⟨c2_z, l2⟩ := b2b hq
    refine t_ifne (t := 10) dX5_readBoth_5 (by decide) (fun h5 => False.elim (by omega)) (fun h5 => ?_)
    refine n_iconst dX5_readBoth_8 (by decide) (fun r8 e8 => ?_)
    refine m_zret dX5_readBoth_9 rfl (by omega) (Nat.le_of_ble_eq_true rfl) (Nat.le_of_ble_eq_true rfl) ?_
    exact hQ _ _ g2 o2 (fun h_z => absurd h_z hq) (fun _ => ⟨e8, l2⟩)
set_option maxHeartbeats 4000000 in
set_option maxRecDepth 100000 in
theorem s_X5_readTruth_1 {g : zGT} {w : zW} {f : Nat → Nat → Int32} {j : Nat → Nat → Int64} {A tq nq : Nat} {v : Option Nat} {B : Nat → Nat} {n : Nat} {ca wa wv : Nat → Nat} {kq ta sm gq gv : Nat} {p lm u : Nat} {x : Int32} {Q : Option Value → zW → Prop} {QX : String → zW → Prop} (G : zGok g) (hr : shRd w A tq nq) (kw : kWd g wa wv kq) (ko : kWo g ca wa wv ta sm gq gv) (htp : tpR B n f A tq) (htk : tkR ca B n f v A p) (hx : x.toInt = 5) (hol : (f A 10).toInt = if lm = 5 then 1 else 0) (hu : (f A 9).toInt = (u : Nat)) (hup : u ≤ p) (hQ : ∀ (b : Int32) v2 f2_z, frM A [8] [2, 3, 4, 5, 9, 11, 12] f f2_z → ((chP B n (chP B n (unP B n (if lm = 5 then 8 else 6) 1) (opA B n)) (opO B n) p).1 = 0 → b.toInt = 1 ∧ tkR ca B n f2_z v2 A (chP B n (chP B n (unP B n (if lm = 5 then 8 else 6) 1) (opA B n)) (opO B n) p).2.1 ∧ okR f f2_z A u (chP B n (chP B n (unP B n (if lm = 5 then 8 else 6) 1) (opA B n)) (opO B n) p).2.2) → ((chP B n (chP B n (unP B n (if lm = 5 then 8 else 6) 1) (opA B n)) (opO B n) p).1 ≠ 0 → b.toInt = 0 ∧ flR f2_z A (chP B n (chP B n (unP B n (if lm = 5 then 8 else 6) 1) (opA B n)) (opO B n) p).1 (chP B n (chP B n (unP B n (if lm = 5 then 8 else 6) 1) (opA B n)) (opO B n) p).2.1) → Q (some (.int b)) (zM (wW w A v2) f2_z j)) : zC g 46 yX5_readTruth cX5_readTruth 3 (some .boolean) [.ref A, .int x] (zM (wW w A v) f j) (0, 0) Q QX := by
  refine zC_of G (by decide +kernel) (Nat.le_of_ble_eq_true rfl) ?_
  have ht := hr.2.2.2.2.2.2
  have h4 := htk.2.2.2.1
  have hpn := htk.1
  have h900 := htp.2.1
  have hgd : ∀ s, s ≤ n → gdP n true (if lm = 5 then 8 else 6) (4 + 2 * 1 + 1) s ((chP B n (unP B n (if lm = 5 then 8 else 6) 1) (opA B n)) s) := fun s hs9 => gd_ch (gd_un (by split <;> decide) 1) hop_A hs9
  have lp : ∀ (mz : Nat) (uu : Int32) (i : Nat) (k : Nat) (ps : Nat) (c : List Nat) (f2_z : Nat → Nat → Int32) (vv : Option Nat), uu.toInt = (i : Nat) → frM A [8] [2, 3, 4, 5, 9, 11, 12] f f2_z → tkR ca B n f2_z vv A ps → okR f f2_z A u c → p + i < ps → ps ≤ n → c.length + p ≤ ps → n ≤ k + ps → lpP B n (chP B n (unP B n (if lm = 5 then 8 else 6) 1) (opA B n)) (opO B n) k (0, ps, c) = chP B n (chP B n (unP B n (if lm = 5 then 8 else 6) 1) (opA B n)) (opO B n) p → k < mz → zR (zV g 46 yX5_readTruth 3 (some .boolean) (0, 0) Q QX) cX5_readTruth yX5_readTruth.cls 12 [some (.ref A), some (.int x), some (.int uu)] [] (zM (wW w A vv) f2_z j) (0, 0) := by
    intro mz
    induction mz with
    | zero =>
      intro uu i k ps c f2_z vv hui ofr htk2 hok hpi hps hcl hnk hR hmz
      exact absurd hmz (Nat.not_lt_zero _)
    | succ mz ih =>
      intro uu i k ps c f2_z vv hui ofr htk2 hok hpi hps hcl hnk hR hmz
      have htp2 := tpR_of htp ht ofr (by decide)
      have h1 := htp2.1
      have htk4 := htk2.2.2.2.1
      have hi9 : i < n := by omega
      by_cases hc_z : isWd B n ps 6 = true
      · have hop : (opO B n) ps = 2002 := if_pos hc_z
        have hop0 : (opO B n) ps ≠ 0 := by rw [hop]; decide
        have hln := tk_lt (B := B) (n := n) (s := ps) (by rw [(isWd_tk hc_z).1]; decide)
        obtain ⟨k2_z, rfl⟩ : ∃ k2_z, k = k2_z + 1 := ⟨k - 1, by omega⟩
        have hnx := nxP_gt (B := B) hln
        have gq := hgd _ hnx.2
        by_cases hq : ((chP B n (unP B n (if lm = 5 then 8 else 6) 1) (opA B n)) (nxP B n ps)).1 = 0
        · obtain ⟨y1, y2, y3, y4⟩ := gq.1 hq
          refine r_iload2 dX5_readTruth_12 ?_
          refine r_aloadR0 dX5_readTruth_13 ?_
          refine m_getV (x := (f2_z A 1)) zf_RX5_15 rfl dX5_readTruth_14 hr.1 (rfl) ?_
          refine t_icge (t := 57) dX5_readTruth_17 (by decide) (fun h17 => False.elim (by omega)) (fun h17 => ?_)
          refine r_aloadR0 dX5_readTruth_20 ?_
          refine k_gets (ko.2.1 ("OR", 6) (List.mem_of_getElem? (i := 8) rfl)) zg_RX5_167 dX5_readTruth_21 ?_
          refine q_callV1 zm_RX5_170 dX5_readTruth_24 hr.1 (by decide) rfl (Nat.le_of_ble_eq_true rfl) (Nat.le_of_ble_eq_true rfl) (Nat.le_of_ble_eq_true rfl) (Nat.le_of_ble_eq_true rfl) (Nat.le_of_ble_eq_true rfl) (s_X5_isWord (i := 6) G hr kw ko (by decide) htk2 (fun r24 e24_z => ?_))
          have e24b : r24.toInt = 1 := e24_z.elim (fun h_z => h_z.1) (fun h_z => absurd hc_z h_z.2)
          refine t_ifeq (t := 57) dX5_readTruth_27 (by decide) (fun h27 => False.elim (by omega)) (fun h27 => ?_)
          refine r_aloadR0 dX5_readTruth_30 ?_
          refine q_callV0 zm_RX5_73 dX5_readTruth_31 hr.1 (by decide) rfl (Nat.le_of_ble_eq_true rfl) (Nat.le_of_ble_eq_true rfl) (Nat.le_of_ble_eq_true rfl) (Nat.le_of_ble_eq_true rfl) (Nat.le_of_ble_eq_true rfl) (s_X5_next (p := teP B n ps) G hr kw ko htp2 htk2.2.1 (teP_le htk2.1) htk2.2.2.2.2.2.2 (fun v31 g31 o31 t31 => ?_))
          have t31 : tkR ca B n g31 v31 A (nxP B n ps) := t31
          have htpn := tpR_of htp2 ht o31 (by decide)
          have wn : g31 (A + 8) = f2_z (A + 8) := o31.2.1 8 (by decide) (by decide) (by decide)
          refine r_aloadR0 dX5_readTruth_34 ?_
          refine r_iload1 dX5_readTruth_35 ?_
          refine q_callV1 zm_RX5_164 dX5_readTruth_36 hr.1 (by decide) rfl (Nat.le_of_ble_eq_true rfl) (Nat.le_of_ble_eq_true rfl) (Nat.le_of_ble_eq_true rfl) (Nat.le_of_ble_eq_true rfl) (Nat.le_of_ble_eq_true rfl) (s_X5_readBoth_1 (lm := lm) (u := u + c.length) G hr kw ko htpn t31 hx (by rw [o31.2.2 10 (by decide), ofr.2.2 10 (by decide)]; exact hol) (by rw [o31.2.2 9 (by decide)]; exact hok.1) (by omega) (fun rs vs gs os as bs => ?_))
          have as2 : ((chP B n (unP B n (if lm = 5 then 8 else 6) 1) (opA B n)) (nxP B n ps)).1 = 0 → rs.toInt = 1 ∧ tkR ca B n gs vs A ((chP B n (unP B n (if lm = 5 then 8 else 6) 1) (opA B n)) (nxP B n ps)).2.1 ∧ okR g31 gs A (u + c.length) ((chP B n (unP B n (if lm = 5 then 8 else 6) 1) (opA B n)) (nxP B n ps)).2.2 := as
          have bs2 : ((chP B n (unP B n (if lm = 5 then 8 else 6) 1) (opA B n)) (nxP B n ps)).1 ≠ 0 → rs.toInt = 0 ∧ flR gs A ((chP B n (unP B n (if lm = 5 then 8 else 6) 1) (opA B n)) (nxP B n ps)).1 ((chP B n (unP B n (if lm = 5 then 8 else 6) 1) (opA B n)) (nxP B n ps)).2.1 := bs
          have ofs : frM A [8] [2, 3, 4, 5, 9, 11, 12] f gs := frM_tr ofr (frM_tr (frM_su o31 (by decide) (by decide)) os)
          obtain ⟨cs, ts, ks⟩ := as2 hq
          refine t_ifne (t := 44) dX5_readTruth_39 (by decide) (fun h39 => ?_) (fun h39 => False.elim (by omega))
          refine r_aloadR0 dX5_readTruth_44 ?_
          refine n_sipush dX5_readTruth_45 (by decide) (fun r45 e45 => ?_)
          refine q_callV1 zm_RX5_173 dX5_readTruth_48 hr.1 (by decide) rfl (Nat.le_of_ble_eq_true rfl) (Nat.le_of_ble_eq_true rfl) (Nat.le_of_ble_eq_true rfl) (Nat.le_of_ble_eq_true rfl) (Nat.le_of_ble_eq_true rfl) (s_X5_emit (u := u + c.length + ((chP B n (unP B n (if lm = 5 then 8 else 6) 1) (opA B n)) (nxP B n ps)).2.2.length) G hr ks.1 (by omega) (fun g48 o48 a48 b48 c48 => ?_))
          refine n_iinc2 dX5_readTruth_51 (by decide) rfl (by omega) (fun r51 e51 => ?_)
          refine r_goto (t := 12) dX5_readTruth_54 (by decide) ?_
          refine ih _ (i + 1) k2_z ((chP B n (unP B n (if lm = 5 then 8 else 6) 1) (opA B n)) (nxP B n ps)).2.1 (c ++ ((chP B n (unP B n (if lm = 5 then 8 else 6) 1) (opA B n)) (nxP B n ps)).2.2 ++ [(opO B n) ps]) g48 _ (by omega) (frM_tr ofs (frM_su o48 (by decide) (by decide))) (tkR_of ts o48 (by decide) (by decide) (by decide) (by decide)) (okR_ap (okR_ap hok (okR_cg ks wn rfl rfl)) ?_) (by omega) y2 ?_ (by omega) ?_ (by omega)
          · rw [List.length_append, ← Nat.add_assoc, hop]
            exact okR_one a48 b48 c48 (by omega)
          · rw [List.length_append, List.length_append, List.length_singleton]
            omega
          · exact (lpP_on (r := (0, ps, c)) rfl hop0 hq).symm.trans hR
        · have hv : ((chP B n (unP B n (if lm = 5 then 8 else 6) 1) (opA B n)) (nxP B n ps)) = chP B n (chP B n (unP B n (if lm = 5 then 8 else 6) 1) (opA B n)) (opO B n) p := (lpP_sub (k := k2_z) (r := (0, ps, c)) rfl hop0 hq).symm.trans hR
          refine r_iload2 dX5_readTruth_12 ?_
          refine r_aloadR0 dX5_readTruth_13 ?_
          refine m_getV (x := (f2_z A 1)) zf_RX5_15 rfl dX5_readTruth_14 hr.1 (rfl) ?_
          refine t_icge (t := 57) dX5_readTruth_17 (by decide) (fun h17 => False.elim (by omega)) (fun h17 => ?_)
          refine r_aloadR0 dX5_readTruth_20 ?_
          refine k_gets (ko.2.1 ("OR", 6) (List.mem_of_getElem? (i := 8) rfl)) zg_RX5_167 dX5_readTruth_21 ?_
          refine q_callV1 zm_RX5_170 dX5_readTruth_24 hr.1 (by decide) rfl (Nat.le_of_ble_eq_true rfl) (Nat.le_of_ble_eq_true rfl) (Nat.le_of_ble_eq_true rfl) (Nat.le_of_ble_eq_true rfl) (Nat.le_of_ble_eq_true rfl) (s_X5_isWord (i := 6) G hr kw ko (by decide) htk2 (fun r24 e24_z => ?_))
          have e24b : r24.toInt = 1 := e24_z.elim (fun h_z => h_z.1) (fun h_z => absurd hc_z h_z.2)
          refine t_ifeq (t := 57) dX5_readTruth_27 (by decide) (fun h27 => False.elim (by omega)) (fun h27 => ?_)
          refine r_aloadR0 dX5_readTruth_30 ?_
          refine q_callV0 zm_RX5_73 dX5_readTruth_31 hr.1 (by decide) rfl (Nat.le_of_ble_eq_true rfl) (Nat.le_of_ble_eq_true rfl) (Nat.le_of_ble_eq_true rfl) (Nat.le_of_ble_eq_true rfl) (Nat.le_of_ble_eq_true rfl) (s_X5_next (p := teP B n ps) G hr kw ko htp2 htk2.2.1 (teP_le htk2.1) htk2.2.2.2.2.2.2 (fun v31 g31 o31 t31 => ?_))
          have t31 : tkR ca B n g31 v31 A (nxP B n ps) := t31
          have htpn := tpR_of htp2 ht o31 (by decide)
          have wn : g31 (A + 8) = f2_z (A + 8) := o31.2.1 8 (by decide) (by decide) (by decide)
          refine r_aloadR0 dX5_readTruth_34 ?_
          refine r_iload1 dX5_readTruth_35 ?_
          refine q_callV1 zm_RX5_164 dX5_readTruth_36 hr.1 (by decide) rfl (Nat.le_of_ble_eq_true rfl) (Nat.le_of_ble_eq_true rfl) (Nat.le_of_ble_eq_true rfl) (Nat.le_of_ble_eq_true rfl) (Nat.le_of_ble_eq_true rfl) (s_X5_readBoth_1 (lm := lm) (u := u + c.length) G hr kw ko htpn t31 hx (by rw [o31.2.2 10 (by decide), ofr.2.2 10 (by decide)]; exact hol) (by rw [o31.2.2 9 (by decide)]; exact hok.1) (by omega) (fun rs vs gs os as bs => ?_))
          have as2 : ((chP B n (unP B n (if lm = 5 then 8 else 6) 1) (opA B n)) (nxP B n ps)).1 = 0 → rs.toInt = 1 ∧ tkR ca B n gs vs A ((chP B n (unP B n (if lm = 5 then 8 else 6) 1) (opA B n)) (nxP B n ps)).2.1 ∧ okR g31 gs A (u + c.length) ((chP B n (unP B n (if lm = 5 then 8 else 6) 1) (opA B n)) (nxP B n ps)).2.2 := as
          have bs2 : ((chP B n (unP B n (if lm = 5 then 8 else 6) 1) (opA B n)) (nxP B n ps)).1 ≠ 0 → rs.toInt = 0 ∧ flR gs A ((chP B n (unP B n (if lm = 5 then 8 else 6) 1) (opA B n)) (nxP B n ps)).1 ((chP B n (unP B n (if lm = 5 then 8 else 6) 1) (opA B n)) (nxP B n ps)).2.1 := bs
          have ofs : frM A [8] [2, 3, 4, 5, 9, 11, 12] f gs := frM_tr ofr (frM_tr (frM_su o31 (by decide) (by decide)) os)
          obtain ⟨cs, ls⟩ := bs2 hq
          refine t_ifne (t := 44) dX5_readTruth_39 (by decide) (fun h39 => False.elim (by omega)) (fun h39 => ?_)
          refine n_iconst dX5_readTruth_42 (by decide) (fun r42 e42_z => ?_)
          refine m_zret dX5_readTruth_43 rfl (by omega) (Nat.le_of_ble_eq_true rfl) (Nat.le_of_ble_eq_true rfl) ?_
          rw [← hv] at hQ
          exact hQ _ _ gs ofs (fun h_z => absurd h_z hq) (fun _ => ⟨e42_z, ls⟩)
      have hop : (opO B n) ps = 0 := if_neg hc_z
      have hv := (lpP_end (B := B) (n := n) (k := k) (sub := (chP B n (unP B n (if lm = 5 then 8 else 6) 1) (opA B n))) (r := (0, ps, c)) hop).symm.trans hR
      refine r_iload2 dX5_readTruth_12 ?_
      refine r_aloadR0 dX5_readTruth_13 ?_
      refine m_getV (x := (f2_z A 1)) zf_RX5_15 rfl dX5_readTruth_14 hr.1 (rfl) ?_
      refine t_icge (t := 57) dX5_readTruth_17 (by decide) (fun h17 => False.elim (by omega)) (fun h17 => ?_)
      refine r_aloadR0 dX5_readTruth_20 ?_
      refine k_gets (ko.2.1 ("OR", 6) (List.mem_of_getElem? (i := 8) rfl)) zg_RX5_167 dX5_readTruth_21 ?_
      refine q_callV1 zm_RX5_170 dX5_readTruth_24 hr.1 (by decide) rfl (Nat.le_of_ble_eq_true rfl) (Nat.le_of_ble_eq_true rfl) (Nat.le_of_ble_eq_true rfl) (Nat.le_of_ble_eq_true rfl) (Nat.le_of_ble_eq_true rfl) (s_X5_isWord (i := 6) G hr kw ko (by decide) htk2 (fun r24 e24_z => ?_))
      have e24b : r24.toInt = 0 := e24_z.elim (fun h_z => absurd h_z.2 hc_z) (fun h_z => h_z.1)
      refine t_ifeq (t := 57) dX5_readTruth_27 (by decide) (fun h27 => ?_) (fun h27 => False.elim (by omega))
      refine n_iconst dX5_readTruth_57 (by decide) (fun r57 e57 => ?_)
      refine m_zret dX5_readTruth_58 rfl (by omega) (Nat.le_of_ble_eq_true rfl) (Nat.le_of_ble_eq_true rfl) ?_
      rw [← hv] at hQ
      exact hQ _ _ f2_z ofr (fun _ => ⟨e57, htk2, hok⟩) (fun h_z => absurd rfl h_z)
  have gp := hgd p hpn
  by_cases hq : ((chP B n (unP B n (if lm = 5 then 8 else 6) 1) (opA B n)) p).1 = 0
  · obtain ⟨y1, y2, y3, y4⟩ := gp.1 hq
    have hz : ((chP B n (unP B n (if lm = 5 then 8 else 6) 1) (opA B n)) p) = (0, ((chP B n (unP B n (if lm = 5 then 8 else 6) 1) (opA B n)) p).2.1, ((chP B n (unP B n (if lm = 5 then 8 else 6) 1) (opA B n)) p).2.2) := Prod.ext hq rfl
    refine r_aloadR0 dX5_readTruth_0 ?_
    refine r_iload1 dX5_readTruth_1 ?_
    refine q_callV1 zm_RX5_164 dX5_readTruth_2 hr.1 (by decide) rfl (Nat.le_of_ble_eq_true rfl) (Nat.le_of_ble_eq_true rfl) (Nat.le_of_ble_eq_true rfl) (Nat.le_of_ble_eq_true rfl) (Nat.le_of_ble_eq_true rfl) (s_X5_readBoth_1 G hr kw ko htp htk hx hol hu hup (fun r2 v2 g2 o2 a2 b2 => ?_))
    have a2b : ((chP B n (unP B n (if lm = 5 then 8 else 6) 1) (opA B n)) p).1 = 0 → r2.toInt = 1 ∧ tkR ca B n g2 v2 A ((chP B n (unP B n (if lm = 5 then 8 else 6) 1) (opA B n)) p).2.1 ∧ okR f g2 A u ((chP B n (unP B n (if lm = 5 then 8 else 6) 1) (opA B n)) p).2.2 := a2
    have b2b : ((chP B n (unP B n (if lm = 5 then 8 else 6) 1) (opA B n)) p).1 ≠ 0 → r2.toInt = 0 ∧ flR g2 A ((chP B n (unP B n (if lm = 5 then 8 else 6) 1) (opA B n)) p).1 ((chP B n (unP B n (if lm = 5 then 8 else 6) 1) (opA B n)) p).2.1 := b2
    obtain ⟨c2_z, t2, k2_z⟩ := a2b hq
    refine t_ifne (t := 10) dX5_readTruth_5 (by decide) (fun h5 => ?_) (fun h5 => False.elim (by omega))
    refine n_iconst dX5_readTruth_10 (by decide) (fun r10 e10_z => ?_)
    refine r_istore2 dX5_readTruth_11 rfl ?_
    exact lp (n + 1) _ 0 n ((chP B n (unP B n (if lm = 5 then 8 else 6) 1) (opA B n)) p).2.1 ((chP B n (unP B n (if lm = 5 then 8 else 6) 1) (opA B n)) p).2.2 g2 _ (by omega) o2 t2 k2_z (by omega) y2 y3 (by omega) (by rw [← hz]; rfl) (Nat.lt_succ_self n)
  · have hv : chP B n (chP B n (unP B n (if lm = 5 then 8 else 6) 1) (opA B n)) (opO B n) p = ((chP B n (unP B n (if lm = 5 then 8 else 6) 1) (opA B n)) p) := lpP_bad hq
    rw [hv] at hQ
    refine r_aloadR0 dX5_readTruth_0 ?_
    refine r_iload1 dX5_readTruth_1 ?_
    refine q_callV1 zm_RX5_164 dX5_readTruth_2 hr.1 (by decide) rfl (Nat.le_of_ble_eq_true rfl) (Nat.le_of_ble_eq_true rfl) (Nat.le_of_ble_eq_true rfl) (Nat.le_of_ble_eq_true rfl) (Nat.le_of_ble_eq_true rfl) (s_X5_readBoth_1 G hr kw ko htp htk hx hol hu hup (fun r2 v2 g2 o2 a2 b2 => ?_))
    have a2b : ((chP B n (unP B n (if lm = 5 then 8 else 6) 1) (opA B n)) p).1 = 0 → r2.toInt = 1 ∧ tkR ca B n g2 v2 A ((chP B n (unP B n (if lm = 5 then 8 else 6) 1) (opA B n)) p).2.1 ∧ okR f g2 A u ((chP B n (unP B n (if lm = 5 then 8 else 6) 1) (opA B n)) p).2.2 := a2
    have b2b : ((chP B n (unP B n (if lm = 5 then 8 else 6) 1) (opA B n)) p).1 ≠ 0 → r2.toInt = 0 ∧ flR g2 A ((chP B n (unP B n (if lm = 5 then 8 else 6) 1) (opA B n)) p).1 ((chP B n (unP B n (if lm = 5 then 8 else 6) 1) (opA B n)) p).2.1 := b2
    obtain ⟨c2_z, l2⟩ := b2b hq
    refine t_ifne (t := 10) dX5_readTruth_5 (by decide) (fun h5 => False.elim (by omega)) (fun h5 => ?_)
    refine n_iconst dX5_readTruth_8 (by decide) (fun r8 e8 => ?_)
    refine m_zret dX5_readTruth_9 rfl (by omega) (Nat.le_of_ble_eq_true rfl) (Nat.le_of_ble_eq_true rfl) ?_
    exact hQ _ _ g2 o2 (fun h_z => absurd h_z hq) (fun _ => ⟨e8, l2⟩)
set_option maxHeartbeats 4000000 in
set_option maxRecDepth 100000 in
theorem s_X5_readUnit_2 {g : zGT} {w : zW} {f : Nat → Nat → Int32} {j : Nat → Nat → Int64} {A tq nq : Nat} {v : Option Nat} {B : Nat → Nat} {n : Nat} {ca wa wv : Nat → Nat} {kq ta sm gq gv : Nat} {p lm u : Nat} {x : Int32} {Q : Option Value → zW → Prop} {QX : String → zW → Prop} (G : zGok g) (hr : shRd w A tq nq) (kw : kWd g wa wv kq) (ko : kWo g ca wa wv ta sm gq gv) (htp : tpR B n f A tq) (htk : tkR ca B n f v A p) (hx : x.toInt = 4) (hol : (f A 10).toInt = if lm = 5 then 1 else 0) (hu : (f A 9).toInt = (u : Nat)) (hup : u ≤ p) (hQ : ∀ (b : Int32) v2 f2_z, frM A [8] [2, 3, 4, 5, 9, 11, 12] f f2_z → ((unP B n (if lm = 5 then 8 else 6) 2 p).1 = 0 → b.toInt = 1 ∧ tkR ca B n f2_z v2 A (unP B n (if lm = 5 then 8 else 6) 2 p).2.1 ∧ okR f f2_z A u (unP B n (if lm = 5 then 8 else 6) 2 p).2.2) → ((unP B n (if lm = 5 then 8 else 6) 2 p).1 ≠ 0 → b.toInt = 0 ∧ flR f2_z A (unP B n (if lm = 5 then 8 else 6) 2 p).1 (unP B n (if lm = 5 then 8 else 6) 2 p).2.1) → Q (some (.int b)) (zM (wW w A v2) f2_z j)) : zC g 48 yX5_readUnit cX5_readUnit 3 (some .boolean) [.ref A, .int x] (zM (wW w A v) f j) (0, 0) Q QX := by
  refine zC_of G (by decide +kernel) (Nat.le_of_ble_eq_true rfl) ?_
  have ht := hr.2.2.2.2.2.2
  have h4 := htk.2.2.2.1
  have hpn := htk.1
  have h900 := htp.2.1
  have hsm : ∀ s, s ≤ n → gdP n false (if lm = 5 then 8 else 6) (1 + 2 * 2 + 2) s (smP B n (if lm = 5 then 8 else 6) 2 s) := fun s hs9 => gd_su (gd_at (by split <;> decide) 2) hs9
  by_cases hw : isWd B n p 8 = true
  · have hv : unP B n (if lm = 5 then 8 else 6) 2 p = noP ((unP B n (if lm = 5 then 8 else 6) 1) (nxP B n p)) := if_pos hw
    rw [hv] at hQ
    have hwt := isWd_tk hw
    have hln := tk_lt (B := B) (n := n) (s := p) (by rw [hwt.1]; decide)
    have hnx := nxP_gt (B := B) hln
    have hgu : gdP n true (if lm = 5 then 8 else 6) (4 + 2 * 1) (nxP B n p) ((unP B n (if lm = 5 then 8 else 6) 1) (nxP B n p)) := gd_un (by split <;> decide) 1 _ hnx.2
    by_cases hq : ((unP B n (if lm = 5 then 8 else 6) 1) (nxP B n p)).1 = 0
    · have hv2 : noP ((unP B n (if lm = 5 then 8 else 6) 1) (nxP B n p)) = (0, ((unP B n (if lm = 5 then 8 else 6) 1) (nxP B n p)).2.1, ((unP B n (if lm = 5 then 8 else 6) 1) (nxP B n p)).2.2 ++ [2000]) := if_neg (not_not_intro hq)
      rw [hv2] at hQ
      obtain ⟨y1, y2, y3, y4⟩ := hgu.1 hq
      refine r_aloadR0 dX5_readUnit_0 ?_
      refine k_gets (ko.2.1 ("NOT", 8) (List.mem_of_getElem? (i := 4) rfl)) zg_RX5_182 dX5_readUnit_1 ?_
      refine q_callV1 zm_RX5_170 dX5_readUnit_4 hr.1 (by decide) rfl (Nat.le_of_ble_eq_true rfl) (Nat.le_of_ble_eq_true rfl) (Nat.le_of_ble_eq_true rfl) (Nat.le_of_ble_eq_true rfl) (Nat.le_of_ble_eq_true rfl) (s_X5_isWord (i := 8) G hr kw ko (by decide) htk (fun r4 e4_z => ?_))
      have e4b : r4.toInt = 1 := e4_z.elim (fun h_z => h_z.1) (fun h_z => absurd hw h_z.2)
      refine t_ifeq (t := 39) dX5_readUnit_7 (by decide) (fun h7 => False.elim (by omega)) (fun h7 => ?_)
      refine r_aloadR0 dX5_readUnit_10 ?_
      refine r_iload1 dX5_readUnit_11 ?_
      refine q_callV1 zm_RX5_185 dX5_readUnit_12 hr.1 (by decide) rfl (Nat.le_of_ble_eq_true rfl) (Nat.le_of_ble_eq_true rfl) (Nat.le_of_ble_eq_true rfl) (Nat.le_of_ble_eq_true rfl) (Nat.le_of_ble_eq_true rfl) (s_X5_goDeeper (d := 4) G hr kw ko htp hx htk (fun rd vd gd od ad bd => ?_))
      obtain ⟨cd, td⟩ := ad (by decide)
      have htpd := tpR_of htp ht od (by decide)
      have wd : gd (A + 8) = f (A + 8) := od.2.1 8 (by decide) (by decide) (by decide)
      refine t_ifeq (t := 28) dX5_readUnit_15 (by decide) (fun h15 => False.elim (by omega)) (fun h15 => ?_)
      refine r_aloadR0 dX5_readUnit_18 ?_
      refine r_iload1 dX5_readUnit_19 ?_
      refine n_iconst dX5_readUnit_20 (by decide) (fun r20 e20 => ?_)
      refine n_iadd dX5_readUnit_21 (by omega) (fun r21 e21_z => ?_)
      refine q_callV1 zm_RX5_176 dX5_readUnit_22 hr.1 (by decide) rfl (Nat.le_of_ble_eq_true rfl) (Nat.le_of_ble_eq_true rfl) (Nat.le_of_ble_eq_true rfl) (Nat.le_of_ble_eq_true rfl) (Nat.le_of_ble_eq_true rfl) (s_X5_readUnit_1 (lm := lm) (u := u) G hr kw ko htpd td (by omega) (by rw [od.2.2 10 (by decide)]; exact hol) (by rw [od.2.2 9 (by decide)]; exact hu) (by omega) (fun rs vs gs os as bs => ?_))
      have as2 : ((unP B n (if lm = 5 then 8 else 6) 1) (nxP B n p)).1 = 0 → rs.toInt = 1 ∧ tkR ca B n gs vs A ((unP B n (if lm = 5 then 8 else 6) 1) (nxP B n p)).2.1 ∧ okR gd gs A u ((unP B n (if lm = 5 then 8 else 6) 1) (nxP B n p)).2.2 := as
      have bs2 : ((unP B n (if lm = 5 then 8 else 6) 1) (nxP B n p)).1 ≠ 0 → rs.toInt = 0 ∧ flR gs A ((unP B n (if lm = 5 then 8 else 6) 1) (nxP B n p)).1 ((unP B n (if lm = 5 then 8 else 6) 1) (nxP B n p)).2.1 := bs
      have ofs : frM A [8] [2, 3, 4, 5, 9, 11, 12] f gs := frM_tr (frM_su od (by decide) (by decide)) os
      obtain ⟨cs, ts, ks⟩ := as2 hq
      refine t_ifne (t := 30) dX5_readUnit_25 (by decide) (fun h25 => ?_) (fun h25 => False.elim (by omega))
      refine r_aloadR0 dX5_readUnit_30 ?_
      refine n_sipush dX5_readUnit_31 (by decide) (fun r31 e31_z => ?_)
      refine q_callV1 zm_RX5_173 dX5_readUnit_34 hr.1 (by decide) rfl (Nat.le_of_ble_eq_true rfl) (Nat.le_of_ble_eq_true rfl) (Nat.le_of_ble_eq_true rfl) (Nat.le_of_ble_eq_true rfl) (Nat.le_of_ble_eq_true rfl) (s_X5_emit (u := u + ((unP B n (if lm = 5 then 8 else 6) 1) (nxP B n p)).2.2.length) G hr ks.1 (by omega) (fun g34 o34 a34 b34 c34 => ?_))
      refine n_iconst dX5_readUnit_37 (by decide) (fun r37 e37 => ?_)
      refine m_zret dX5_readUnit_38 rfl (by omega) (Nat.le_of_ble_eq_true rfl) (Nat.le_of_ble_eq_true rfl) ?_
      exact hQ _ _ g34 (frM_tr ofs (frM_su o34 (by decide) (by decide))) (fun _ => ⟨e37, tkR_of ts o34 (by decide) (by decide) (by decide) (by decide), okR_ap (okR_cg ks wd rfl rfl) (okR_one a34 b34 c34 (by omega))⟩) (fun h_z => absurd rfl h_z)
    · have hv2 : noP ((unP B n (if lm = 5 then 8 else 6) 1) (nxP B n p)) = ((unP B n (if lm = 5 then 8 else 6) 1) (nxP B n p)) := if_pos hq
      rw [hv2] at hQ
      refine r_aloadR0 dX5_readUnit_0 ?_
      refine k_gets (ko.2.1 ("NOT", 8) (List.mem_of_getElem? (i := 4) rfl)) zg_RX5_182 dX5_readUnit_1 ?_
      refine q_callV1 zm_RX5_170 dX5_readUnit_4 hr.1 (by decide) rfl (Nat.le_of_ble_eq_true rfl) (Nat.le_of_ble_eq_true rfl) (Nat.le_of_ble_eq_true rfl) (Nat.le_of_ble_eq_true rfl) (Nat.le_of_ble_eq_true rfl) (s_X5_isWord (i := 8) G hr kw ko (by decide) htk (fun r4 e4_z => ?_))
      have e4b : r4.toInt = 1 := e4_z.elim (fun h_z => h_z.1) (fun h_z => absurd hw h_z.2)
      refine t_ifeq (t := 39) dX5_readUnit_7 (by decide) (fun h7 => False.elim (by omega)) (fun h7 => ?_)
      refine r_aloadR0 dX5_readUnit_10 ?_
      refine r_iload1 dX5_readUnit_11 ?_
      refine q_callV1 zm_RX5_185 dX5_readUnit_12 hr.1 (by decide) rfl (Nat.le_of_ble_eq_true rfl) (Nat.le_of_ble_eq_true rfl) (Nat.le_of_ble_eq_true rfl) (Nat.le_of_ble_eq_true rfl) (Nat.le_of_ble_eq_true rfl) (s_X5_goDeeper (d := 4) G hr kw ko htp hx htk (fun rd vd gd od ad bd => ?_))
      obtain ⟨cd, td⟩ := ad (by decide)
      have htpd := tpR_of htp ht od (by decide)
      have wd : gd (A + 8) = f (A + 8) := od.2.1 8 (by decide) (by decide) (by decide)
      refine t_ifeq (t := 28) dX5_readUnit_15 (by decide) (fun h15 => False.elim (by omega)) (fun h15 => ?_)
      refine r_aloadR0 dX5_readUnit_18 ?_
      refine r_iload1 dX5_readUnit_19 ?_
      refine n_iconst dX5_readUnit_20 (by decide) (fun r20 e20 => ?_)
      refine n_iadd dX5_readUnit_21 (by omega) (fun r21 e21_z => ?_)
      refine q_callV1 zm_RX5_176 dX5_readUnit_22 hr.1 (by decide) rfl (Nat.le_of_ble_eq_true rfl) (Nat.le_of_ble_eq_true rfl) (Nat.le_of_ble_eq_true rfl) (Nat.le_of_ble_eq_true rfl) (Nat.le_of_ble_eq_true rfl) (s_X5_readUnit_1 (lm := lm) (u := u) G hr kw ko htpd td (by omega) (by rw [od.2.2 10 (by decide)]; exact hol) (by rw [od.2.2 9 (by decide)]; exact hu) (by omega) (fun rs vs gs os as bs => ?_))
      have as2 : ((unP B n (if lm = 5 then 8 else 6) 1) (nxP B n p)).1 = 0 → rs.toInt = 1 ∧ tkR ca B n gs vs A ((unP B n (if lm = 5 then 8 else 6) 1) (nxP B n p)).2.1 ∧ okR gd gs A u ((unP B n (if lm = 5 then 8 else 6) 1) (nxP B n p)).2.2 := as
      have bs2 : ((unP B n (if lm = 5 then 8 else 6) 1) (nxP B n p)).1 ≠ 0 → rs.toInt = 0 ∧ flR gs A ((unP B n (if lm = 5 then 8 else 6) 1) (nxP B n p)).1 ((unP B n (if lm = 5 then 8 else 6) 1) (nxP B n p)).2.1 := bs
      have ofs : frM A [8] [2, 3, 4, 5, 9, 11, 12] f gs := frM_tr (frM_su od (by decide) (by decide)) os
      obtain ⟨cs, ls⟩ := bs2 hq
      refine t_ifne (t := 30) dX5_readUnit_25 (by decide) (fun h25 => False.elim (by omega)) (fun h25 => ?_)
      refine n_iconst dX5_readUnit_28 (by decide) (fun r28 e28_z => ?_)
      refine m_zret dX5_readUnit_29 rfl (by omega) (Nat.le_of_ble_eq_true rfl) (Nat.le_of_ble_eq_true rfl) ?_
      exact hQ _ _ gs ofs (fun h_z => absurd h_z hq) (fun _ => ⟨e28_z, ls⟩)
  by_cases hp : tkP B n p = 91
  · have hv : unP B n (if lm = 5 then 8 else 6) 2 p = clP B n 93 (trU B n (unP B n (if lm = 5 then 8 else 6) 1) (nxP B n p)) := (if_neg hw).trans (if_pos hp)
    rw [hv] at hQ
    have hln := tk_lt (B := B) (n := n) (s := p) (by rw [hp]; decide)
    have hnx := nxP_gt (B := B) hln
    by_cases hq : (trU B n (unP B n (if lm = 5 then 8 else 6) 1) (nxP B n p)).1 = 0
    · by_cases h93 : tkP B n (trU B n (unP B n (if lm = 5 then 8 else 6) 1) (nxP B n p)).2.1 = 93
      · have hv2 : clP B n 93 (trU B n (unP B n (if lm = 5 then 8 else 6) 1) (nxP B n p)) = (0, nxP B n (trU B n (unP B n (if lm = 5 then 8 else 6) 1) (nxP B n p)).2.1, (trU B n (unP B n (if lm = 5 then 8 else 6) 1) (nxP B n p)).2.2) := (if_neg (not_not_intro hq)).trans (if_pos h93)
        rw [hv2] at hQ
        refine r_aloadR0 dX5_readUnit_0 ?_
        refine k_gets (ko.2.1 ("NOT", 8) (List.mem_of_getElem? (i := 4) rfl)) zg_RX5_182 dX5_readUnit_1 ?_
        refine q_callV1 zm_RX5_170 dX5_readUnit_4 hr.1 (by decide) rfl (Nat.le_of_ble_eq_true rfl) (Nat.le_of_ble_eq_true rfl) (Nat.le_of_ble_eq_true rfl) (Nat.le_of_ble_eq_true rfl) (Nat.le_of_ble_eq_true rfl) (s_X5_isWord (i := 8) G hr kw ko (by decide) htk (fun r4 e4_z => ?_))
        have e4b : r4.toInt = 0 := e4_z.elim (fun h_z => absurd h_z.2 hw) (fun h_z => h_z.1)
        refine t_ifeq (t := 39) dX5_readUnit_7 (by decide) (fun h7 => ?_) (fun h7 => False.elim (by omega))
        refine r_aloadR0 dX5_readUnit_39 ?_
        refine m_getV (x := (f A 4)) zf_RX5_25 rfl dX5_readUnit_40 hr.1 (rfl) ?_
        refine n_bipush dX5_readUnit_43 (by decide) (fun r43 e43 => ?_)
        refine t_icne (t := 81) dX5_readUnit_45 (by decide) (fun h45 => False.elim (by omega)) (fun h45 => ?_)
        refine r_aloadR0 dX5_readUnit_48 ?_
        refine r_iload1 dX5_readUnit_49 ?_
        refine q_callV1 zm_RX5_185 dX5_readUnit_50 hr.1 (by decide) rfl (Nat.le_of_ble_eq_true rfl) (Nat.le_of_ble_eq_true rfl) (Nat.le_of_ble_eq_true rfl) (Nat.le_of_ble_eq_true rfl) (Nat.le_of_ble_eq_true rfl) (s_X5_goDeeper (d := 4) G hr kw ko htp hx htk (fun rd vd gd od ad bd => ?_))
        obtain ⟨cd, td⟩ := ad (by decide)
        have htpd := tpR_of htp ht od (by decide)
        have wd : gd (A + 8) = f (A + 8) := od.2.1 8 (by decide) (by decide) (by decide)
        refine t_ifeq (t := 79) dX5_readUnit_53 (by decide) (fun h53 => False.elim (by omega)) (fun h53 => ?_)
        refine r_aloadR0 dX5_readUnit_56 ?_
        refine r_iload1 dX5_readUnit_57 ?_
        refine n_iconst dX5_readUnit_58 (by decide) (fun r58 e58 => ?_)
        refine n_iadd dX5_readUnit_59 (by omega) (fun r59 e59 => ?_)
        refine q_callV1 zm_RX5_143 dX5_readUnit_60 hr.1 (by decide) rfl (Nat.le_of_ble_eq_true rfl) (Nat.le_of_ble_eq_true rfl) (Nat.le_of_ble_eq_true rfl) (Nat.le_of_ble_eq_true rfl) (Nat.le_of_ble_eq_true rfl) (s_X5_readTruth_1 (lm := lm) (u := u) G hr kw ko htpd td (by omega) (by rw [od.2.2 10 (by decide)]; exact hol) (by rw [od.2.2 9 (by decide)]; exact hu) (by omega) (fun rs vs gs os as bs => ?_))
        have as2 : (trU B n (unP B n (if lm = 5 then 8 else 6) 1) (nxP B n p)).1 = 0 → rs.toInt = 1 ∧ tkR ca B n gs vs A (trU B n (unP B n (if lm = 5 then 8 else 6) 1) (nxP B n p)).2.1 ∧ okR gd gs A u (trU B n (unP B n (if lm = 5 then 8 else 6) 1) (nxP B n p)).2.2 := as
        have bs2 : (trU B n (unP B n (if lm = 5 then 8 else 6) 1) (nxP B n p)).1 ≠ 0 → rs.toInt = 0 ∧ flR gs A (trU B n (unP B n (if lm = 5 then 8 else 6) 1) (nxP B n p)).1 (trU B n (unP B n (if lm = 5 then 8 else 6) 1) (nxP B n p)).2.1 := bs
        have ofs : frM A [8] [2, 3, 4, 5, 9, 11, 12] f gs := frM_tr (frM_su od (by decide) (by decide)) os
        obtain ⟨cs, ts, ks⟩ := as2 hq
        refine t_ifeq (t := 79) dX5_readUnit_63 (by decide) (fun h63 => False.elim (by omega)) (fun h63 => ?_)
        refine r_aloadR0 dX5_readUnit_66 ?_
        refine n_bipush dX5_readUnit_67 (by decide) (fun r67 e67 => ?_)
        refine q_callV1 zm_RX5_102 dX5_readUnit_69 hr.1 (by decide) rfl (Nat.le_of_ble_eq_true rfl) (Nat.le_of_ble_eq_true rfl) (Nat.le_of_ble_eq_true rfl) (Nat.le_of_ble_eq_true rfl) (Nat.le_of_ble_eq_true rfl) (s_X5_takeSign (s := (trU B n (unP B n (if lm = 5 then 8 else 6) 1) (nxP B n p)).2.1) (c := 93) G hr kw ko (tpR_of htp ht ofs (by decide)) e67 ts (fun r69 v69 g69 o69 a69 b69 => ?_))
        obtain ⟨c69, t69⟩ := a69 h93
        refine t_ifeq (t := 79) dX5_readUnit_72 (by decide) (fun h72 => False.elim (by omega)) (fun h72 => ?_)
        refine n_iconst dX5_readUnit_75 (by decide) (fun r75 e75 => ?_)
        refine r_goto (t := 80) dX5_readUnit_76 (by decide) ?_
        refine m_zret dX5_readUnit_80 rfl (by omega) (Nat.le_of_ble_eq_true rfl) (Nat.le_of_ble_eq_true rfl) ?_
        exact hQ _ _ g69 (frM_tr ofs (frM_su o69 (by decide) (by decide))) (fun _ => ⟨e75, t69, okR_cg ks wd (o69.2.1 8 (by decide) (by decide) (by decide)) (o69.2.2 9 (by decide))⟩) (fun h_z => absurd rfl h_z)
      · have hv2 : clP B n 93 (trU B n (unP B n (if lm = 5 then 8 else 6) 1) (nxP B n p)) = (baP B n (trU B n (unP B n (if lm = 5 then 8 else 6) 1) (nxP B n p)).2.1, (trU B n (unP B n (if lm = 5 then 8 else 6) 1) (nxP B n p)).2.1, []) := (if_neg (not_not_intro hq)).trans (if_neg h93)
        rw [hv2] at hQ
        refine r_aloadR0 dX5_readUnit_0 ?_
        refine k_gets (ko.2.1 ("NOT", 8) (List.mem_of_getElem? (i := 4) rfl)) zg_RX5_182 dX5_readUnit_1 ?_
        refine q_callV1 zm_RX5_170 dX5_readUnit_4 hr.1 (by decide) rfl (Nat.le_of_ble_eq_true rfl) (Nat.le_of_ble_eq_true rfl) (Nat.le_of_ble_eq_true rfl) (Nat.le_of_ble_eq_true rfl) (Nat.le_of_ble_eq_true rfl) (s_X5_isWord (i := 8) G hr kw ko (by decide) htk (fun r4 e4_z => ?_))
        have e4b : r4.toInt = 0 := e4_z.elim (fun h_z => absurd h_z.2 hw) (fun h_z => h_z.1)
        refine t_ifeq (t := 39) dX5_readUnit_7 (by decide) (fun h7 => ?_) (fun h7 => False.elim (by omega))
        refine r_aloadR0 dX5_readUnit_39 ?_
        refine m_getV (x := (f A 4)) zf_RX5_25 rfl dX5_readUnit_40 hr.1 (rfl) ?_
        refine n_bipush dX5_readUnit_43 (by decide) (fun r43 e43 => ?_)
        refine t_icne (t := 81) dX5_readUnit_45 (by decide) (fun h45 => False.elim (by omega)) (fun h45 => ?_)
        refine r_aloadR0 dX5_readUnit_48 ?_
        refine r_iload1 dX5_readUnit_49 ?_
        refine q_callV1 zm_RX5_185 dX5_readUnit_50 hr.1 (by decide) rfl (Nat.le_of_ble_eq_true rfl) (Nat.le_of_ble_eq_true rfl) (Nat.le_of_ble_eq_true rfl) (Nat.le_of_ble_eq_true rfl) (Nat.le_of_ble_eq_true rfl) (s_X5_goDeeper (d := 4) G hr kw ko htp hx htk (fun rd vd gd od ad bd => ?_))
        obtain ⟨cd, td⟩ := ad (by decide)
        have htpd := tpR_of htp ht od (by decide)
        have wd : gd (A + 8) = f (A + 8) := od.2.1 8 (by decide) (by decide) (by decide)
        refine t_ifeq (t := 79) dX5_readUnit_53 (by decide) (fun h53 => False.elim (by omega)) (fun h53 => ?_)
        refine r_aloadR0 dX5_readUnit_56 ?_
        refine r_iload1 dX5_readUnit_57 ?_
        refine n_iconst dX5_readUnit_58 (by decide) (fun r58 e58 => ?_)
        refine n_iadd dX5_readUnit_59 (by omega) (fun r59 e59 => ?_)
        refine q_callV1 zm_RX5_143 dX5_readUnit_60 hr.1 (by decide) rfl (Nat.le_of_ble_eq_true rfl) (Nat.le_of_ble_eq_true rfl) (Nat.le_of_ble_eq_true rfl) (Nat.le_of_ble_eq_true rfl) (Nat.le_of_ble_eq_true rfl) (s_X5_readTruth_1 (lm := lm) (u := u) G hr kw ko htpd td (by omega) (by rw [od.2.2 10 (by decide)]; exact hol) (by rw [od.2.2 9 (by decide)]; exact hu) (by omega) (fun rs vs gs os as bs => ?_))
        have as2 : (trU B n (unP B n (if lm = 5 then 8 else 6) 1) (nxP B n p)).1 = 0 → rs.toInt = 1 ∧ tkR ca B n gs vs A (trU B n (unP B n (if lm = 5 then 8 else 6) 1) (nxP B n p)).2.1 ∧ okR gd gs A u (trU B n (unP B n (if lm = 5 then 8 else 6) 1) (nxP B n p)).2.2 := as
        have bs2 : (trU B n (unP B n (if lm = 5 then 8 else 6) 1) (nxP B n p)).1 ≠ 0 → rs.toInt = 0 ∧ flR gs A (trU B n (unP B n (if lm = 5 then 8 else 6) 1) (nxP B n p)).1 (trU B n (unP B n (if lm = 5 then 8 else 6) 1) (nxP B n p)).2.1 := bs
        have ofs : frM A [8] [2, 3, 4, 5, 9, 11, 12] f gs := frM_tr (frM_su od (by decide) (by decide)) os
        obtain ⟨cs, ts, ks⟩ := as2 hq
        refine t_ifeq (t := 79) dX5_readUnit_63 (by decide) (fun h63 => False.elim (by omega)) (fun h63 => ?_)
        refine r_aloadR0 dX5_readUnit_66 ?_
        refine n_bipush dX5_readUnit_67 (by decide) (fun r67 e67 => ?_)
        refine q_callV1 zm_RX5_102 dX5_readUnit_69 hr.1 (by decide) rfl (Nat.le_of_ble_eq_true rfl) (Nat.le_of_ble_eq_true rfl) (Nat.le_of_ble_eq_true rfl) (Nat.le_of_ble_eq_true rfl) (Nat.le_of_ble_eq_true rfl) (s_X5_takeSign (s := (trU B n (unP B n (if lm = 5 then 8 else 6) 1) (nxP B n p)).2.1) (c := 93) G hr kw ko (tpR_of htp ht ofs (by decide)) e67 ts (fun r69 v69 g69 o69 a69 b69 => ?_))
        obtain ⟨c69, l69⟩ := b69 h93
        refine t_ifeq (t := 79) dX5_readUnit_72 (by decide) (fun h72 => ?_) (fun h72 => False.elim (by omega))
        refine n_iconst dX5_readUnit_79 (by decide) (fun r79 e79 => ?_)
        refine m_zret dX5_readUnit_80 rfl (by omega) (Nat.le_of_ble_eq_true rfl) (Nat.le_of_ble_eq_true rfl) ?_
        exact hQ _ _ g69 (frM_tr ofs (frM_su o69 (by decide) (by decide))) (fun h_z => absurd h_z ba_bd.1) (fun _ => ⟨e79, l69⟩)
    · have hv2 : clP B n 93 (trU B n (unP B n (if lm = 5 then 8 else 6) 1) (nxP B n p)) = (trU B n (unP B n (if lm = 5 then 8 else 6) 1) (nxP B n p)) := if_pos hq
      rw [hv2] at hQ
      refine r_aloadR0 dX5_readUnit_0 ?_
      refine k_gets (ko.2.1 ("NOT", 8) (List.mem_of_getElem? (i := 4) rfl)) zg_RX5_182 dX5_readUnit_1 ?_
      refine q_callV1 zm_RX5_170 dX5_readUnit_4 hr.1 (by decide) rfl (Nat.le_of_ble_eq_true rfl) (Nat.le_of_ble_eq_true rfl) (Nat.le_of_ble_eq_true rfl) (Nat.le_of_ble_eq_true rfl) (Nat.le_of_ble_eq_true rfl) (s_X5_isWord (i := 8) G hr kw ko (by decide) htk (fun r4 e4_z => ?_))
      have e4b : r4.toInt = 0 := e4_z.elim (fun h_z => absurd h_z.2 hw) (fun h_z => h_z.1)
      refine t_ifeq (t := 39) dX5_readUnit_7 (by decide) (fun h7 => ?_) (fun h7 => False.elim (by omega))
      refine r_aloadR0 dX5_readUnit_39 ?_
      refine m_getV (x := (f A 4)) zf_RX5_25 rfl dX5_readUnit_40 hr.1 (rfl) ?_
      refine n_bipush dX5_readUnit_43 (by decide) (fun r43 e43 => ?_)
      refine t_icne (t := 81) dX5_readUnit_45 (by decide) (fun h45 => False.elim (by omega)) (fun h45 => ?_)
      refine r_aloadR0 dX5_readUnit_48 ?_
      refine r_iload1 dX5_readUnit_49 ?_
      refine q_callV1 zm_RX5_185 dX5_readUnit_50 hr.1 (by decide) rfl (Nat.le_of_ble_eq_true rfl) (Nat.le_of_ble_eq_true rfl) (Nat.le_of_ble_eq_true rfl) (Nat.le_of_ble_eq_true rfl) (Nat.le_of_ble_eq_true rfl) (s_X5_goDeeper (d := 4) G hr kw ko htp hx htk (fun rd vd gd od ad bd => ?_))
      obtain ⟨cd, td⟩ := ad (by decide)
      have htpd := tpR_of htp ht od (by decide)
      have wd : gd (A + 8) = f (A + 8) := od.2.1 8 (by decide) (by decide) (by decide)
      refine t_ifeq (t := 79) dX5_readUnit_53 (by decide) (fun h53 => False.elim (by omega)) (fun h53 => ?_)
      refine r_aloadR0 dX5_readUnit_56 ?_
      refine r_iload1 dX5_readUnit_57 ?_
      refine n_iconst dX5_readUnit_58 (by decide) (fun r58 e58 => ?_)
      refine n_iadd dX5_readUnit_59 (by omega) (fun r59 e59 => ?_)
      refine q_callV1 zm_RX5_143 dX5_readUnit_60 hr.1 (by decide) rfl (Nat.le_of_ble_eq_true rfl) (Nat.le_of_ble_eq_true rfl) (Nat.le_of_ble_eq_true rfl) (Nat.le_of_ble_eq_true rfl) (Nat.le_of_ble_eq_true rfl) (s_X5_readTruth_1 (lm := lm) (u := u) G hr kw ko htpd td (by omega) (by rw [od.2.2 10 (by decide)]; exact hol) (by rw [od.2.2 9 (by decide)]; exact hu) (by omega) (fun rs vs gs os as bs => ?_))
      have as2 : (trU B n (unP B n (if lm = 5 then 8 else 6) 1) (nxP B n p)).1 = 0 → rs.toInt = 1 ∧ tkR ca B n gs vs A (trU B n (unP B n (if lm = 5 then 8 else 6) 1) (nxP B n p)).2.1 ∧ okR gd gs A u (trU B n (unP B n (if lm = 5 then 8 else 6) 1) (nxP B n p)).2.2 := as
      have bs2 : (trU B n (unP B n (if lm = 5 then 8 else 6) 1) (nxP B n p)).1 ≠ 0 → rs.toInt = 0 ∧ flR gs A (trU B n (unP B n (if lm = 5 then 8 else 6) 1) (nxP B n p)).1 (trU B n (unP B n (if lm = 5 then 8 else 6) 1) (nxP B n p)).2.1 := bs
      have ofs : frM A [8] [2, 3, 4, 5, 9, 11, 12] f gs := frM_tr (frM_su od (by decide) (by decide)) os
      obtain ⟨cs, ls⟩ := bs2 hq
      refine t_ifeq (t := 79) dX5_readUnit_63 (by decide) (fun h63 => ?_) (fun h63 => False.elim (by omega))
      refine n_iconst dX5_readUnit_79 (by decide) (fun r79 e79 => ?_)
      refine m_zret dX5_readUnit_80 rfl (by omega) (Nat.le_of_ble_eq_true rfl) (Nat.le_of_ble_eq_true rfl) ?_
      exact hQ _ _ gs ofs (fun h_z => absurd h_z hq) (fun _ => ⟨e79, ls⟩)
  have hv0 : unP B n (if lm = 5 then 8 else 6) 2 p = cmP B n (smP B n (if lm = 5 then 8 else 6) 2) p := (if_neg hw).trans (if_neg hp)
  rw [hv0] at hQ
  by_cases hq : (smP B n (if lm = 5 then 8 else 6) 2 p).1 = 0
  · obtain ⟨y1, y2, y3, y4⟩ := (hsm p hpn).1 hq
    by_cases hop : opC B n (smP B n (if lm = 5 then 8 else 6) 2 p).2.1 = 0
    · have hv : cmP B n (smP B n (if lm = 5 then 8 else 6) 2) p = (baP B n (smP B n (if lm = 5 then 8 else 6) 2 p).2.1, (smP B n (if lm = 5 then 8 else 6) 2 p).2.1, []) := (if_neg (not_not_intro hq)).trans (if_pos hop)
      rw [hv] at hQ
      have hba := ba_bd (B := B) (n := n) (s := (smP B n (if lm = 5 then 8 else 6) 2 p).2.1)
      refine r_aloadR0 dX5_readUnit_0 ?_
      refine k_gets (ko.2.1 ("NOT", 8) (List.mem_of_getElem? (i := 4) rfl)) zg_RX5_182 dX5_readUnit_1 ?_
      refine q_callV1 zm_RX5_170 dX5_readUnit_4 hr.1 (by decide) rfl (Nat.le_of_ble_eq_true rfl) (Nat.le_of_ble_eq_true rfl) (Nat.le_of_ble_eq_true rfl) (Nat.le_of_ble_eq_true rfl) (Nat.le_of_ble_eq_true rfl) (s_X5_isWord (i := 8) G hr kw ko (by decide) htk (fun r4 e4_z => ?_))
      have e4b : r4.toInt = 0 := e4_z.elim (fun h_z => absurd h_z.2 hw) (fun h_z => h_z.1)
      refine t_ifeq (t := 39) dX5_readUnit_7 (by decide) (fun h7 => ?_) (fun h7 => False.elim (by omega))
      refine r_aloadR0 dX5_readUnit_39 ?_
      refine m_getV (x := (f A 4)) zf_RX5_25 rfl dX5_readUnit_40 hr.1 (rfl) ?_
      refine n_bipush dX5_readUnit_43 (by decide) (fun r43 e43 => ?_)
      refine t_icne (t := 81) dX5_readUnit_45 (by decide) (fun h45 => ?_) (fun h45 => False.elim (by omega))
      refine r_aloadR0 dX5_readUnit_81 ?_
      refine r_iload1 dX5_readUnit_82 ?_
      refine q_callV1 zm_RX5_146 dX5_readUnit_83 hr.1 (by decide) rfl (Nat.le_of_ble_eq_true rfl) (Nat.le_of_ble_eq_true rfl) (Nat.le_of_ble_eq_true rfl) (Nat.le_of_ble_eq_true rfl) (Nat.le_of_ble_eq_true rfl) (s_X5_readSum_2 (lm := lm) (u := u) G hr kw ko htp htk hx hol hu hup (fun r83 v83 g83 o83 a83 b83 => ?_))
      have a83b : (smP B n (if lm = 5 then 8 else 6) 2 p).1 = 0 → r83.toInt = 1 ∧ tkR ca B n g83 v83 A (smP B n (if lm = 5 then 8 else 6) 2 p).2.1 ∧ okR f g83 A u (smP B n (if lm = 5 then 8 else 6) 2 p).2.2 := a83
      have b83b : (smP B n (if lm = 5 then 8 else 6) 2 p).1 ≠ 0 → r83.toInt = 0 ∧ flR g83 A (smP B n (if lm = 5 then 8 else 6) 2 p).1 (smP B n (if lm = 5 then 8 else 6) 2 p).2.1 := b83
      obtain ⟨c83, t83, k83⟩ := a83b hq
      have htp83 := tpR_of htp ht o83 (by decide)
      refine t_ifne (t := 91) dX5_readUnit_86 (by decide) (fun h86 => ?_) (fun h86 => False.elim (by omega))
      refine r_aloadR0 dX5_readUnit_91 ?_
      refine q_callV0 zm_RX5_188 dX5_readUnit_92 hr.1 (by decide) rfl (Nat.le_of_ble_eq_true rfl) (Nat.le_of_ble_eq_true rfl) (Nat.le_of_ble_eq_true rfl) (Nat.le_of_ble_eq_true rfl) (Nat.le_of_ble_eq_true rfl) (s_X5_comparing (n := n) (B := B) (s := (smP B n (if lm = 5 then 8 else 6) 2 p).2.1) G hr t83 (fun r92 a92 b92 => ?_))
      have e92_z := a92 hop
      refine r_istore2 dX5_readUnit_95 rfl ?_
      refine r_iload2 dX5_readUnit_96 ?_
      refine n_iconst dX5_readUnit_97 (by decide) (fun r97 e97_z => ?_)
      refine t_icne (t := 106) dX5_readUnit_98 (by decide) (fun h98 => False.elim (by omega)) (fun h98 => ?_)
      refine r_aloadR0 dX5_readUnit_101 ?_
      refine q_callV0 zm_RX5_80 dX5_readUnit_102 hr.1 (by decide) rfl (Nat.le_of_ble_eq_true rfl) (Nat.le_of_ble_eq_true rfl) (Nat.le_of_ble_eq_true rfl) (Nat.le_of_ble_eq_true rfl) (Nat.le_of_ble_eq_true rfl) (s_X5_refuseToken G hr t83 (fun r102 g102 e102_z o102 l102 => ?_))
      refine m_zret dX5_readUnit_105 rfl (by omega) (Nat.le_of_ble_eq_true rfl) (Nat.le_of_ble_eq_true rfl) ?_
      exact hQ _ _ g102 (frM_tr o83 (frM_su o102 (by decide) (by decide))) (fun h_z => absurd h_z hba.1) (fun _ => ⟨e102_z, l102⟩)
    · have hcb := (hop_C (B := B) (n := n) _ hop)
      have hnx := nxP_gt (B := B) hcb.1
      have hge : 2000 ≤ opC B n (smP B n (if lm = 5 then 8 else 6) 2 p).2.1 := by rcases hcb.2 with ⟨_, _, h_z⟩ | ⟨_, _, h_z⟩ | ⟨_, _, h_z⟩ <;> omega
      by_cases hq2 : (smP B n (if lm = 5 then 8 else 6) 2 (nxP B n (smP B n (if lm = 5 then 8 else 6) 2 p).2.1)).1 = 0
      · obtain ⟨z1, z2, z3, z4⟩ := (hsm _ hnx.2).1 hq2
        have hv : cmP B n (smP B n (if lm = 5 then 8 else 6) 2) p = (0, (smP B n (if lm = 5 then 8 else 6) 2 (nxP B n (smP B n (if lm = 5 then 8 else 6) 2 p).2.1)).2.1, (smP B n (if lm = 5 then 8 else 6) 2 p).2.2 ++ (smP B n (if lm = 5 then 8 else 6) 2 (nxP B n (smP B n (if lm = 5 then 8 else 6) 2 p).2.1)).2.2 ++ [opC B n (smP B n (if lm = 5 then 8 else 6) 2 p).2.1]) := (if_neg (not_not_intro hq)).trans ((if_neg hop).trans (if_neg (not_not_intro hq2)))
        rw [hv] at hQ
        refine r_aloadR0 dX5_readUnit_0 ?_
        refine k_gets (ko.2.1 ("NOT", 8) (List.mem_of_getElem? (i := 4) rfl)) zg_RX5_182 dX5_readUnit_1 ?_
        refine q_callV1 zm_RX5_170 dX5_readUnit_4 hr.1 (by decide) rfl (Nat.le_of_ble_eq_true rfl) (Nat.le_of_ble_eq_true rfl) (Nat.le_of_ble_eq_true rfl) (Nat.le_of_ble_eq_true rfl) (Nat.le_of_ble_eq_true rfl) (s_X5_isWord (i := 8) G hr kw ko (by decide) htk (fun r4 e4_z => ?_))
        have e4b : r4.toInt = 0 := e4_z.elim (fun h_z => absurd h_z.2 hw) (fun h_z => h_z.1)
        refine t_ifeq (t := 39) dX5_readUnit_7 (by decide) (fun h7 => ?_) (fun h7 => False.elim (by omega))
        refine r_aloadR0 dX5_readUnit_39 ?_
        refine m_getV (x := (f A 4)) zf_RX5_25 rfl dX5_readUnit_40 hr.1 (rfl) ?_
        refine n_bipush dX5_readUnit_43 (by decide) (fun r43 e43 => ?_)
        refine t_icne (t := 81) dX5_readUnit_45 (by decide) (fun h45 => ?_) (fun h45 => False.elim (by omega))
        refine r_aloadR0 dX5_readUnit_81 ?_
        refine r_iload1 dX5_readUnit_82 ?_
        refine q_callV1 zm_RX5_146 dX5_readUnit_83 hr.1 (by decide) rfl (Nat.le_of_ble_eq_true rfl) (Nat.le_of_ble_eq_true rfl) (Nat.le_of_ble_eq_true rfl) (Nat.le_of_ble_eq_true rfl) (Nat.le_of_ble_eq_true rfl) (s_X5_readSum_2 (lm := lm) (u := u) G hr kw ko htp htk hx hol hu hup (fun r83 v83 g83 o83 a83 b83 => ?_))
        have a83b : (smP B n (if lm = 5 then 8 else 6) 2 p).1 = 0 → r83.toInt = 1 ∧ tkR ca B n g83 v83 A (smP B n (if lm = 5 then 8 else 6) 2 p).2.1 ∧ okR f g83 A u (smP B n (if lm = 5 then 8 else 6) 2 p).2.2 := a83
        have b83b : (smP B n (if lm = 5 then 8 else 6) 2 p).1 ≠ 0 → r83.toInt = 0 ∧ flR g83 A (smP B n (if lm = 5 then 8 else 6) 2 p).1 (smP B n (if lm = 5 then 8 else 6) 2 p).2.1 := b83
        obtain ⟨c83, t83, k83⟩ := a83b hq
        have htp83 := tpR_of htp ht o83 (by decide)
        refine t_ifne (t := 91) dX5_readUnit_86 (by decide) (fun h86 => ?_) (fun h86 => False.elim (by omega))
        refine r_aloadR0 dX5_readUnit_91 ?_
        refine q_callV0 zm_RX5_188 dX5_readUnit_92 hr.1 (by decide) rfl (Nat.le_of_ble_eq_true rfl) (Nat.le_of_ble_eq_true rfl) (Nat.le_of_ble_eq_true rfl) (Nat.le_of_ble_eq_true rfl) (Nat.le_of_ble_eq_true rfl) (s_X5_comparing (n := n) (B := B) (s := (smP B n (if lm = 5 then 8 else 6) 2 p).2.1) G hr t83 (fun r92 a92 b92 => ?_))
        have e92_z := b92 hop
        refine r_istore2 dX5_readUnit_95 rfl ?_
        refine r_iload2 dX5_readUnit_96 ?_
        refine n_iconst dX5_readUnit_97 (by decide) (fun r97 e97_z => ?_)
        refine t_icne (t := 106) dX5_readUnit_98 (by decide) (fun h98 => ?_) (fun h98 => False.elim (by omega))
        refine r_aloadR0 dX5_readUnit_106 ?_
        refine q_callV0 zm_RX5_73 dX5_readUnit_107 hr.1 (by decide) rfl (Nat.le_of_ble_eq_true rfl) (Nat.le_of_ble_eq_true rfl) (Nat.le_of_ble_eq_true rfl) (Nat.le_of_ble_eq_true rfl) (Nat.le_of_ble_eq_true rfl) (s_X5_next (p := teP B n (smP B n (if lm = 5 then 8 else 6) 2 p).2.1) G hr kw ko htp83 t83.2.1 (teP_le t83.1) t83.2.2.2.2.2.2 (fun v107 g107 o107 t107 => ?_))
        have t107 : tkR ca B n g107 v107 A (nxP B n (smP B n (if lm = 5 then 8 else 6) 2 p).2.1) := t107
        have htpn := tpR_of htp83 ht o107 (by decide)
        have wn : g107 (A + 8) = g83 (A + 8) := o107.2.1 8 (by decide) (by decide) (by decide)
        refine r_aloadR0 dX5_readUnit_110 ?_
        refine r_iload1 dX5_readUnit_111 ?_
        refine q_callV1 zm_RX5_146 dX5_readUnit_112 hr.1 (by decide) rfl (Nat.le_of_ble_eq_true rfl) (Nat.le_of_ble_eq_true rfl) (Nat.le_of_ble_eq_true rfl) (Nat.le_of_ble_eq_true rfl) (Nat.le_of_ble_eq_true rfl) (s_X5_readSum_2 (lm := lm) (u := u + (smP B n (if lm = 5 then 8 else 6) 2 p).2.2.length) G hr kw ko htpn t107 hx (by rw [o107.2.2 10 (by decide), o83.2.2 10 (by decide)]; exact hol) (by rw [o107.2.2 9 (by decide)]; exact k83.1) (by omega) (fun rs vs gs os as bs => ?_))
        have as2 : (smP B n (if lm = 5 then 8 else 6) 2 (nxP B n (smP B n (if lm = 5 then 8 else 6) 2 p).2.1)).1 = 0 → rs.toInt = 1 ∧ tkR ca B n gs vs A (smP B n (if lm = 5 then 8 else 6) 2 (nxP B n (smP B n (if lm = 5 then 8 else 6) 2 p).2.1)).2.1 ∧ okR g107 gs A (u + (smP B n (if lm = 5 then 8 else 6) 2 p).2.2.length) (smP B n (if lm = 5 then 8 else 6) 2 (nxP B n (smP B n (if lm = 5 then 8 else 6) 2 p).2.1)).2.2 := as
        have bs2 : (smP B n (if lm = 5 then 8 else 6) 2 (nxP B n (smP B n (if lm = 5 then 8 else 6) 2 p).2.1)).1 ≠ 0 → rs.toInt = 0 ∧ flR gs A (smP B n (if lm = 5 then 8 else 6) 2 (nxP B n (smP B n (if lm = 5 then 8 else 6) 2 p).2.1)).1 (smP B n (if lm = 5 then 8 else 6) 2 (nxP B n (smP B n (if lm = 5 then 8 else 6) 2 p).2.1)).2.1 := bs
        have ofs : frM A [8] [2, 3, 4, 5, 9, 11, 12] f gs := frM_tr o83 (frM_tr (frM_su o107 (by decide) (by decide)) os)
        obtain ⟨cs, ts, ks⟩ := as2 hq2
        refine t_ifne (t := 120) dX5_readUnit_115 (by decide) (fun h115 => ?_) (fun h115 => False.elim (by omega))
        refine r_aloadR0 dX5_readUnit_120 ?_
        refine r_iload2 dX5_readUnit_121 ?_
        refine q_callV1 zm_RX5_173 dX5_readUnit_122 hr.1 (by decide) rfl (Nat.le_of_ble_eq_true rfl) (Nat.le_of_ble_eq_true rfl) (Nat.le_of_ble_eq_true rfl) (Nat.le_of_ble_eq_true rfl) (Nat.le_of_ble_eq_true rfl) (s_X5_emit (u := u + (smP B n (if lm = 5 then 8 else 6) 2 p).2.2.length + (smP B n (if lm = 5 then 8 else 6) 2 (nxP B n (smP B n (if lm = 5 then 8 else 6) 2 p).2.1)).2.2.length) G hr ks.1 (by omega) (fun g122 o122 a122 b122 c122 => ?_))
        refine n_iconst dX5_readUnit_125 (by decide) (fun r125 e125_z => ?_)
        refine m_zret dX5_readUnit_126 rfl (by omega) (Nat.le_of_ble_eq_true rfl) (Nat.le_of_ble_eq_true rfl) ?_
        refine hQ _ _ g122 (frM_tr ofs (frM_su o122 (by decide) (by decide))) (fun _ => ⟨e125_z, tkR_of ts o122 (by decide) (by decide) (by decide) (by decide), okR_ap (okR_ap k83 (okR_cg ks wn rfl rfl)) ?_⟩) (fun h_z => absurd rfl h_z)
        rw [List.length_append, ← Nat.add_assoc]
        exact okR_one a122 b122 c122 e92_z
      · have hv : cmP B n (smP B n (if lm = 5 then 8 else 6) 2) p = (smP B n (if lm = 5 then 8 else 6) 2 (nxP B n (smP B n (if lm = 5 then 8 else 6) 2 p).2.1)) := (if_neg (not_not_intro hq)).trans ((if_neg hop).trans (if_pos hq2))
        rw [hv] at hQ
        refine r_aloadR0 dX5_readUnit_0 ?_
        refine k_gets (ko.2.1 ("NOT", 8) (List.mem_of_getElem? (i := 4) rfl)) zg_RX5_182 dX5_readUnit_1 ?_
        refine q_callV1 zm_RX5_170 dX5_readUnit_4 hr.1 (by decide) rfl (Nat.le_of_ble_eq_true rfl) (Nat.le_of_ble_eq_true rfl) (Nat.le_of_ble_eq_true rfl) (Nat.le_of_ble_eq_true rfl) (Nat.le_of_ble_eq_true rfl) (s_X5_isWord (i := 8) G hr kw ko (by decide) htk (fun r4 e4_z => ?_))
        have e4b : r4.toInt = 0 := e4_z.elim (fun h_z => absurd h_z.2 hw) (fun h_z => h_z.1)
        refine t_ifeq (t := 39) dX5_readUnit_7 (by decide) (fun h7 => ?_) (fun h7 => False.elim (by omega))
        refine r_aloadR0 dX5_readUnit_39 ?_
        refine m_getV (x := (f A 4)) zf_RX5_25 rfl dX5_readUnit_40 hr.1 (rfl) ?_
        refine n_bipush dX5_readUnit_43 (by decide) (fun r43 e43 => ?_)
        refine t_icne (t := 81) dX5_readUnit_45 (by decide) (fun h45 => ?_) (fun h45 => False.elim (by omega))
        refine r_aloadR0 dX5_readUnit_81 ?_
        refine r_iload1 dX5_readUnit_82 ?_
        refine q_callV1 zm_RX5_146 dX5_readUnit_83 hr.1 (by decide) rfl (Nat.le_of_ble_eq_true rfl) (Nat.le_of_ble_eq_true rfl) (Nat.le_of_ble_eq_true rfl) (Nat.le_of_ble_eq_true rfl) (Nat.le_of_ble_eq_true rfl) (s_X5_readSum_2 (lm := lm) (u := u) G hr kw ko htp htk hx hol hu hup (fun r83 v83 g83 o83 a83 b83 => ?_))
        have a83b : (smP B n (if lm = 5 then 8 else 6) 2 p).1 = 0 → r83.toInt = 1 ∧ tkR ca B n g83 v83 A (smP B n (if lm = 5 then 8 else 6) 2 p).2.1 ∧ okR f g83 A u (smP B n (if lm = 5 then 8 else 6) 2 p).2.2 := a83
        have b83b : (smP B n (if lm = 5 then 8 else 6) 2 p).1 ≠ 0 → r83.toInt = 0 ∧ flR g83 A (smP B n (if lm = 5 then 8 else 6) 2 p).1 (smP B n (if lm = 5 then 8 else 6) 2 p).2.1 := b83
        obtain ⟨c83, t83, k83⟩ := a83b hq
        have htp83 := tpR_of htp ht o83 (by decide)
        refine t_ifne (t := 91) dX5_readUnit_86 (by decide) (fun h86 => ?_) (fun h86 => False.elim (by omega))
        refine r_aloadR0 dX5_readUnit_91 ?_
        refine q_callV0 zm_RX5_188 dX5_readUnit_92 hr.1 (by decide) rfl (Nat.le_of_ble_eq_true rfl) (Nat.le_of_ble_eq_true rfl) (Nat.le_of_ble_eq_true rfl) (Nat.le_of_ble_eq_true rfl) (Nat.le_of_ble_eq_true rfl) (s_X5_comparing (n := n) (B := B) (s := (smP B n (if lm = 5 then 8 else 6) 2 p).2.1) G hr t83 (fun r92 a92 b92 => ?_))
        have e92_z := b92 hop
        refine r_istore2 dX5_readUnit_95 rfl ?_
        refine r_iload2 dX5_readUnit_96 ?_
        refine n_iconst dX5_readUnit_97 (by decide) (fun r97 e97_z => ?_)
        refine t_icne (t := 106) dX5_readUnit_98 (by decide) (fun h98 => ?_) (fun h98 => False.elim (by omega))
        refine r_aloadR0 dX5_readUnit_106 ?_
        refine q_callV0 zm_RX5_73 dX5_readUnit_107 hr.1 (by decide) rfl (Nat.le_of_ble_eq_true rfl) (Nat.le_of_ble_eq_true rfl) (Nat.le_of_ble_eq_true rfl) (Nat.le_of_ble_eq_true rfl) (Nat.le_of_ble_eq_true rfl) (s_X5_next (p := teP B n (smP B n (if lm = 5 then 8 else 6) 2 p).2.1) G hr kw ko htp83 t83.2.1 (teP_le t83.1) t83.2.2.2.2.2.2 (fun v107 g107 o107 t107 => ?_))
        have t107 : tkR ca B n g107 v107 A (nxP B n (smP B n (if lm = 5 then 8 else 6) 2 p).2.1) := t107
        have htpn := tpR_of htp83 ht o107 (by decide)
        have wn : g107 (A + 8) = g83 (A + 8) := o107.2.1 8 (by decide) (by decide) (by decide)
        refine r_aloadR0 dX5_readUnit_110 ?_
        refine r_iload1 dX5_readUnit_111 ?_
        refine q_callV1 zm_RX5_146 dX5_readUnit_112 hr.1 (by decide) rfl (Nat.le_of_ble_eq_true rfl) (Nat.le_of_ble_eq_true rfl) (Nat.le_of_ble_eq_true rfl) (Nat.le_of_ble_eq_true rfl) (Nat.le_of_ble_eq_true rfl) (s_X5_readSum_2 (lm := lm) (u := u + (smP B n (if lm = 5 then 8 else 6) 2 p).2.2.length) G hr kw ko htpn t107 hx (by rw [o107.2.2 10 (by decide), o83.2.2 10 (by decide)]; exact hol) (by rw [o107.2.2 9 (by decide)]; exact k83.1) (by omega) (fun rs vs gs os as bs => ?_))
        have as2 : (smP B n (if lm = 5 then 8 else 6) 2 (nxP B n (smP B n (if lm = 5 then 8 else 6) 2 p).2.1)).1 = 0 → rs.toInt = 1 ∧ tkR ca B n gs vs A (smP B n (if lm = 5 then 8 else 6) 2 (nxP B n (smP B n (if lm = 5 then 8 else 6) 2 p).2.1)).2.1 ∧ okR g107 gs A (u + (smP B n (if lm = 5 then 8 else 6) 2 p).2.2.length) (smP B n (if lm = 5 then 8 else 6) 2 (nxP B n (smP B n (if lm = 5 then 8 else 6) 2 p).2.1)).2.2 := as
        have bs2 : (smP B n (if lm = 5 then 8 else 6) 2 (nxP B n (smP B n (if lm = 5 then 8 else 6) 2 p).2.1)).1 ≠ 0 → rs.toInt = 0 ∧ flR gs A (smP B n (if lm = 5 then 8 else 6) 2 (nxP B n (smP B n (if lm = 5 then 8 else 6) 2 p).2.1)).1 (smP B n (if lm = 5 then 8 else 6) 2 (nxP B n (smP B n (if lm = 5 then 8 else 6) 2 p).2.1)).2.1 := bs
        have ofs : frM A [8] [2, 3, 4, 5, 9, 11, 12] f gs := frM_tr o83 (frM_tr (frM_su o107 (by decide) (by decide)) os)
        obtain ⟨cs, ls⟩ := bs2 hq2
        refine t_ifne (t := 120) dX5_readUnit_115 (by decide) (fun h115 => False.elim (by omega)) (fun h115 => ?_)
        refine n_iconst dX5_readUnit_118 (by decide) (fun r118 e118_z => ?_)
        refine m_zret dX5_readUnit_119 rfl (by omega) (Nat.le_of_ble_eq_true rfl) (Nat.le_of_ble_eq_true rfl) ?_
        exact hQ _ _ gs ofs (fun h_z => absurd h_z hq2) (fun _ => ⟨e118_z, ls⟩)
  · have hv : cmP B n (smP B n (if lm = 5 then 8 else 6) 2) p = (smP B n (if lm = 5 then 8 else 6) 2 p) := if_pos hq
    rw [hv] at hQ
    refine r_aloadR0 dX5_readUnit_0 ?_
    refine k_gets (ko.2.1 ("NOT", 8) (List.mem_of_getElem? (i := 4) rfl)) zg_RX5_182 dX5_readUnit_1 ?_
    refine q_callV1 zm_RX5_170 dX5_readUnit_4 hr.1 (by decide) rfl (Nat.le_of_ble_eq_true rfl) (Nat.le_of_ble_eq_true rfl) (Nat.le_of_ble_eq_true rfl) (Nat.le_of_ble_eq_true rfl) (Nat.le_of_ble_eq_true rfl) (s_X5_isWord (i := 8) G hr kw ko (by decide) htk (fun r4 e4_z => ?_))
    have e4b : r4.toInt = 0 := e4_z.elim (fun h_z => absurd h_z.2 hw) (fun h_z => h_z.1)
    refine t_ifeq (t := 39) dX5_readUnit_7 (by decide) (fun h7 => ?_) (fun h7 => False.elim (by omega))
    refine r_aloadR0 dX5_readUnit_39 ?_
    refine m_getV (x := (f A 4)) zf_RX5_25 rfl dX5_readUnit_40 hr.1 (rfl) ?_
    refine n_bipush dX5_readUnit_43 (by decide) (fun r43 e43 => ?_)
    refine t_icne (t := 81) dX5_readUnit_45 (by decide) (fun h45 => ?_) (fun h45 => False.elim (by omega))
    refine r_aloadR0 dX5_readUnit_81 ?_
    refine r_iload1 dX5_readUnit_82 ?_
    refine q_callV1 zm_RX5_146 dX5_readUnit_83 hr.1 (by decide) rfl (Nat.le_of_ble_eq_true rfl) (Nat.le_of_ble_eq_true rfl) (Nat.le_of_ble_eq_true rfl) (Nat.le_of_ble_eq_true rfl) (Nat.le_of_ble_eq_true rfl) (s_X5_readSum_2 (lm := lm) (u := u) G hr kw ko htp htk hx hol hu hup (fun r83 v83 g83 o83 a83 b83 => ?_))
    have a83b : (smP B n (if lm = 5 then 8 else 6) 2 p).1 = 0 → r83.toInt = 1 ∧ tkR ca B n g83 v83 A (smP B n (if lm = 5 then 8 else 6) 2 p).2.1 ∧ okR f g83 A u (smP B n (if lm = 5 then 8 else 6) 2 p).2.2 := a83
    have b83b : (smP B n (if lm = 5 then 8 else 6) 2 p).1 ≠ 0 → r83.toInt = 0 ∧ flR g83 A (smP B n (if lm = 5 then 8 else 6) 2 p).1 (smP B n (if lm = 5 then 8 else 6) 2 p).2.1 := b83
    obtain ⟨c83, l83⟩ := b83b hq
    refine t_ifne (t := 91) dX5_readUnit_86 (by decide) (fun h86 => False.elim (by omega)) (fun h86 => ?_)
    refine n_iconst dX5_readUnit_89 (by decide) (fun r89 e89 => ?_)
    refine m_zret dX5_readUnit_90 rfl (by omega) (Nat.le_of_ble_eq_true rfl) (Nat.le_of_ble_eq_true rfl) ?_
    exact hQ _ _ g83 o83 (fun h_z => absurd h_z hq) (fun _ => ⟨e89, l83⟩)
set_option maxHeartbeats 4000000 in
set_option maxRecDepth 100000 in
theorem s_X5_readBoth_2 {g : zGT} {w : zW} {f : Nat → Nat → Int32} {j : Nat → Nat → Int64} {A tq nq : Nat} {v : Option Nat} {B : Nat → Nat} {n : Nat} {ca wa wv : Nat → Nat} {kq ta sm gq gv : Nat} {p lm u : Nat} {x : Int32} {Q : Option Value → zW → Prop} {QX : String → zW → Prop} (G : zGok g) (hr : shRd w A tq nq) (kw : kWd g wa wv kq) (ko : kWo g ca wa wv ta sm gq gv) (htp : tpR B n f A tq) (htk : tkR ca B n f v A p) (hx : x.toInt = 4) (hol : (f A 10).toInt = if lm = 5 then 1 else 0) (hu : (f A 9).toInt = (u : Nat)) (hup : u ≤ p) (hQ : ∀ (b : Int32) v2 f2_z, frM A [8] [2, 3, 4, 5, 9, 11, 12] f f2_z → ((chP B n (unP B n (if lm = 5 then 8 else 6) 2) (opA B n) p).1 = 0 → b.toInt = 1 ∧ tkR ca B n f2_z v2 A (chP B n (unP B n (if lm = 5 then 8 else 6) 2) (opA B n) p).2.1 ∧ okR f f2_z A u (chP B n (unP B n (if lm = 5 then 8 else 6) 2) (opA B n) p).2.2) → ((chP B n (unP B n (if lm = 5 then 8 else 6) 2) (opA B n) p).1 ≠ 0 → b.toInt = 0 ∧ flR f2_z A (chP B n (unP B n (if lm = 5 then 8 else 6) 2) (opA B n) p).1 (chP B n (unP B n (if lm = 5 then 8 else 6) 2) (opA B n) p).2.1) → Q (some (.int b)) (zM (wW w A v2) f2_z j)) : zC g 49 yX5_readBoth cX5_readBoth 3 (some .boolean) [.ref A, .int x] (zM (wW w A v) f j) (0, 0) Q QX := by
  refine zC_of G (by decide +kernel) (Nat.le_of_ble_eq_true rfl) ?_
  have ht := hr.2.2.2.2.2.2
  have h4 := htk.2.2.2.1
  have hpn := htk.1
  have h900 := htp.2.1
  have hgd : ∀ s, s ≤ n → gdP n true (if lm = 5 then 8 else 6) (4 + 2 * 2) s ((unP B n (if lm = 5 then 8 else 6) 2) s) := gd_un (by split <;> decide) 2
  have lp : ∀ (mz : Nat) (uu : Int32) (i : Nat) (k : Nat) (ps : Nat) (c : List Nat) (f2_z : Nat → Nat → Int32) (vv : Option Nat), uu.toInt = (i : Nat) → frM A [8] [2, 3, 4, 5, 9, 11, 12] f f2_z → tkR ca B n f2_z vv A ps → okR f f2_z A u c → p + i < ps → ps ≤ n → c.length + p ≤ ps → n ≤ k + ps → lpP B n (unP B n (if lm = 5 then 8 else 6) 2) (opA B n) k (0, ps, c) = chP B n (unP B n (if lm = 5 then 8 else 6) 2) (opA B n) p → k < mz → zR (zV g 49 yX5_readBoth 3 (some .boolean) (0, 0) Q QX) cX5_readBoth yX5_readBoth.cls 12 [some (.ref A), some (.int x), some (.int uu)] [] (zM (wW w A vv) f2_z j) (0, 0) := by
    intro mz
    induction mz with
    | zero =>
      intro uu i k ps c f2_z vv hui ofr htk2 hok hpi hps hcl hnk hR hmz
      exact absurd hmz (Nat.not_lt_zero _)
    | succ mz ih =>
      intro uu i k ps c f2_z vv hui ofr htk2 hok hpi hps hcl hnk hR hmz
      have htp2 := tpR_of htp ht ofr (by decide)
      have h1 := htp2.1
      have htk4 := htk2.2.2.2.1
      have hi9 : i < n := by omega
      by_cases hc_z : isWd B n ps 7 = true
      · have hop : (opA B n) ps = 2001 := if_pos hc_z
        have hop0 : (opA B n) ps ≠ 0 := by rw [hop]; decide
        have hln := tk_lt (B := B) (n := n) (s := ps) (by rw [(isWd_tk hc_z).1]; decide)
        obtain ⟨k2_z, rfl⟩ : ∃ k2_z, k = k2_z + 1 := ⟨k - 1, by omega⟩
        have hnx := nxP_gt (B := B) hln
        have gq := hgd _ hnx.2
        by_cases hq : ((unP B n (if lm = 5 then 8 else 6) 2) (nxP B n ps)).1 = 0
        · obtain ⟨y1, y2, y3, y4⟩ := gq.1 hq
          refine r_iload2 dX5_readBoth_12 ?_
          refine r_aloadR0 dX5_readBoth_13 ?_
          refine m_getV (x := (f2_z A 1)) zf_RX5_15 rfl dX5_readBoth_14 hr.1 (rfl) ?_
          refine t_icge (t := 57) dX5_readBoth_17 (by decide) (fun h17 => False.elim (by omega)) (fun h17 => ?_)
          refine r_aloadR0 dX5_readBoth_20 ?_
          refine k_gets (ko.2.1 ("AND", 7) (List.mem_of_getElem? (i := 7) rfl)) zg_RX5_179 dX5_readBoth_21 ?_
          refine q_callV1 zm_RX5_170 dX5_readBoth_24 hr.1 (by decide) rfl (Nat.le_of_ble_eq_true rfl) (Nat.le_of_ble_eq_true rfl) (Nat.le_of_ble_eq_true rfl) (Nat.le_of_ble_eq_true rfl) (Nat.le_of_ble_eq_true rfl) (s_X5_isWord (i := 7) G hr kw ko (by decide) htk2 (fun r24 e24_z => ?_))
          have e24b : r24.toInt = 1 := e24_z.elim (fun h_z => h_z.1) (fun h_z => absurd hc_z h_z.2)
          refine t_ifeq (t := 57) dX5_readBoth_27 (by decide) (fun h27 => False.elim (by omega)) (fun h27 => ?_)
          refine r_aloadR0 dX5_readBoth_30 ?_
          refine q_callV0 zm_RX5_73 dX5_readBoth_31 hr.1 (by decide) rfl (Nat.le_of_ble_eq_true rfl) (Nat.le_of_ble_eq_true rfl) (Nat.le_of_ble_eq_true rfl) (Nat.le_of_ble_eq_true rfl) (Nat.le_of_ble_eq_true rfl) (s_X5_next (p := teP B n ps) G hr kw ko htp2 htk2.2.1 (teP_le htk2.1) htk2.2.2.2.2.2.2 (fun v31 g31 o31 t31 => ?_))
          have t31 : tkR ca B n g31 v31 A (nxP B n ps) := t31
          have htpn := tpR_of htp2 ht o31 (by decide)
          have wn : g31 (A + 8) = f2_z (A + 8) := o31.2.1 8 (by decide) (by decide) (by decide)
          refine r_aloadR0 dX5_readBoth_34 ?_
          refine r_iload1 dX5_readBoth_35 ?_
          refine q_callV1 zm_RX5_176 dX5_readBoth_36 hr.1 (by decide) rfl (Nat.le_of_ble_eq_true rfl) (Nat.le_of_ble_eq_true rfl) (Nat.le_of_ble_eq_true rfl) (Nat.le_of_ble_eq_true rfl) (Nat.le_of_ble_eq_true rfl) (s_X5_readUnit_2 (lm := lm) (u := u + c.length) G hr kw ko htpn t31 hx (by rw [o31.2.2 10 (by decide), ofr.2.2 10 (by decide)]; exact hol) (by rw [o31.2.2 9 (by decide)]; exact hok.1) (by omega) (fun rs vs gs os as bs => ?_))
          have as2 : ((unP B n (if lm = 5 then 8 else 6) 2) (nxP B n ps)).1 = 0 → rs.toInt = 1 ∧ tkR ca B n gs vs A ((unP B n (if lm = 5 then 8 else 6) 2) (nxP B n ps)).2.1 ∧ okR g31 gs A (u + c.length) ((unP B n (if lm = 5 then 8 else 6) 2) (nxP B n ps)).2.2 := as
          have bs2 : ((unP B n (if lm = 5 then 8 else 6) 2) (nxP B n ps)).1 ≠ 0 → rs.toInt = 0 ∧ flR gs A ((unP B n (if lm = 5 then 8 else 6) 2) (nxP B n ps)).1 ((unP B n (if lm = 5 then 8 else 6) 2) (nxP B n ps)).2.1 := bs
          have ofs : frM A [8] [2, 3, 4, 5, 9, 11, 12] f gs := frM_tr ofr (frM_tr (frM_su o31 (by decide) (by decide)) os)
          obtain ⟨cs, ts, ks⟩ := as2 hq
          refine t_ifne (t := 44) dX5_readBoth_39 (by decide) (fun h39 => ?_) (fun h39 => False.elim (by omega))
          refine r_aloadR0 dX5_readBoth_44 ?_
          refine n_sipush dX5_readBoth_45 (by decide) (fun r45 e45 => ?_)
          refine q_callV1 zm_RX5_173 dX5_readBoth_48 hr.1 (by decide) rfl (Nat.le_of_ble_eq_true rfl) (Nat.le_of_ble_eq_true rfl) (Nat.le_of_ble_eq_true rfl) (Nat.le_of_ble_eq_true rfl) (Nat.le_of_ble_eq_true rfl) (s_X5_emit (u := u + c.length + ((unP B n (if lm = 5 then 8 else 6) 2) (nxP B n ps)).2.2.length) G hr ks.1 (by omega) (fun g48 o48 a48 b48 c48 => ?_))
          refine n_iinc2 dX5_readBoth_51 (by decide) rfl (by omega) (fun r51 e51 => ?_)
          refine r_goto (t := 12) dX5_readBoth_54 (by decide) ?_
          refine ih _ (i + 1) k2_z ((unP B n (if lm = 5 then 8 else 6) 2) (nxP B n ps)).2.1 (c ++ ((unP B n (if lm = 5 then 8 else 6) 2) (nxP B n ps)).2.2 ++ [(opA B n) ps]) g48 _ (by omega) (frM_tr ofs (frM_su o48 (by decide) (by decide))) (tkR_of ts o48 (by decide) (by decide) (by decide) (by decide)) (okR_ap (okR_ap hok (okR_cg ks wn rfl rfl)) ?_) (by omega) y2 ?_ (by omega) ?_ (by omega)
          · rw [List.length_append, ← Nat.add_assoc, hop]
            exact okR_one a48 b48 c48 (by omega)
          · rw [List.length_append, List.length_append, List.length_singleton]
            omega
          · exact (lpP_on (r := (0, ps, c)) rfl hop0 hq).symm.trans hR
        · have hv : ((unP B n (if lm = 5 then 8 else 6) 2) (nxP B n ps)) = chP B n (unP B n (if lm = 5 then 8 else 6) 2) (opA B n) p := (lpP_sub (k := k2_z) (r := (0, ps, c)) rfl hop0 hq).symm.trans hR
          refine r_iload2 dX5_readBoth_12 ?_
          refine r_aloadR0 dX5_readBoth_13 ?_
          refine m_getV (x := (f2_z A 1)) zf_RX5_15 rfl dX5_readBoth_14 hr.1 (rfl) ?_
          refine t_icge (t := 57) dX5_readBoth_17 (by decide) (fun h17 => False.elim (by omega)) (fun h17 => ?_)
          refine r_aloadR0 dX5_readBoth_20 ?_
          refine k_gets (ko.2.1 ("AND", 7) (List.mem_of_getElem? (i := 7) rfl)) zg_RX5_179 dX5_readBoth_21 ?_
          refine q_callV1 zm_RX5_170 dX5_readBoth_24 hr.1 (by decide) rfl (Nat.le_of_ble_eq_true rfl) (Nat.le_of_ble_eq_true rfl) (Nat.le_of_ble_eq_true rfl) (Nat.le_of_ble_eq_true rfl) (Nat.le_of_ble_eq_true rfl) (s_X5_isWord (i := 7) G hr kw ko (by decide) htk2 (fun r24 e24_z => ?_))
          have e24b : r24.toInt = 1 := e24_z.elim (fun h_z => h_z.1) (fun h_z => absurd hc_z h_z.2)
          refine t_ifeq (t := 57) dX5_readBoth_27 (by decide) (fun h27 => False.elim (by omega)) (fun h27 => ?_)
          refine r_aloadR0 dX5_readBoth_30 ?_
          refine q_callV0 zm_RX5_73 dX5_readBoth_31 hr.1 (by decide) rfl (Nat.le_of_ble_eq_true rfl) (Nat.le_of_ble_eq_true rfl) (Nat.le_of_ble_eq_true rfl) (Nat.le_of_ble_eq_true rfl) (Nat.le_of_ble_eq_true rfl) (s_X5_next (p := teP B n ps) G hr kw ko htp2 htk2.2.1 (teP_le htk2.1) htk2.2.2.2.2.2.2 (fun v31 g31 o31 t31 => ?_))
          have t31 : tkR ca B n g31 v31 A (nxP B n ps) := t31
          have htpn := tpR_of htp2 ht o31 (by decide)
          have wn : g31 (A + 8) = f2_z (A + 8) := o31.2.1 8 (by decide) (by decide) (by decide)
          refine r_aloadR0 dX5_readBoth_34 ?_
          refine r_iload1 dX5_readBoth_35 ?_
          refine q_callV1 zm_RX5_176 dX5_readBoth_36 hr.1 (by decide) rfl (Nat.le_of_ble_eq_true rfl) (Nat.le_of_ble_eq_true rfl) (Nat.le_of_ble_eq_true rfl) (Nat.le_of_ble_eq_true rfl) (Nat.le_of_ble_eq_true rfl) (s_X5_readUnit_2 (lm := lm) (u := u + c.length) G hr kw ko htpn t31 hx (by rw [o31.2.2 10 (by decide), ofr.2.2 10 (by decide)]; exact hol) (by rw [o31.2.2 9 (by decide)]; exact hok.1) (by omega) (fun rs vs gs os as bs => ?_))
          have as2 : ((unP B n (if lm = 5 then 8 else 6) 2) (nxP B n ps)).1 = 0 → rs.toInt = 1 ∧ tkR ca B n gs vs A ((unP B n (if lm = 5 then 8 else 6) 2) (nxP B n ps)).2.1 ∧ okR g31 gs A (u + c.length) ((unP B n (if lm = 5 then 8 else 6) 2) (nxP B n ps)).2.2 := as
          have bs2 : ((unP B n (if lm = 5 then 8 else 6) 2) (nxP B n ps)).1 ≠ 0 → rs.toInt = 0 ∧ flR gs A ((unP B n (if lm = 5 then 8 else 6) 2) (nxP B n ps)).1 ((unP B n (if lm = 5 then 8 else 6) 2) (nxP B n ps)).2.1 := bs
          have ofs : frM A [8] [2, 3, 4, 5, 9, 11, 12] f gs := frM_tr ofr (frM_tr (frM_su o31 (by decide) (by decide)) os)
          obtain ⟨cs, ls⟩ := bs2 hq
          refine t_ifne (t := 44) dX5_readBoth_39 (by decide) (fun h39 => False.elim (by omega)) (fun h39 => ?_)
          refine n_iconst dX5_readBoth_42 (by decide) (fun r42 e42_z => ?_)
          refine m_zret dX5_readBoth_43 rfl (by omega) (Nat.le_of_ble_eq_true rfl) (Nat.le_of_ble_eq_true rfl) ?_
          rw [← hv] at hQ
          exact hQ _ _ gs ofs (fun h_z => absurd h_z hq) (fun _ => ⟨e42_z, ls⟩)
      have hop : (opA B n) ps = 0 := if_neg hc_z
      have hv := (lpP_end (B := B) (n := n) (k := k) (sub := (unP B n (if lm = 5 then 8 else 6) 2)) (r := (0, ps, c)) hop).symm.trans hR
      refine r_iload2 dX5_readBoth_12 ?_
      refine r_aloadR0 dX5_readBoth_13 ?_
      refine m_getV (x := (f2_z A 1)) zf_RX5_15 rfl dX5_readBoth_14 hr.1 (rfl) ?_
      refine t_icge (t := 57) dX5_readBoth_17 (by decide) (fun h17 => False.elim (by omega)) (fun h17 => ?_)
      refine r_aloadR0 dX5_readBoth_20 ?_
      refine k_gets (ko.2.1 ("AND", 7) (List.mem_of_getElem? (i := 7) rfl)) zg_RX5_179 dX5_readBoth_21 ?_
      refine q_callV1 zm_RX5_170 dX5_readBoth_24 hr.1 (by decide) rfl (Nat.le_of_ble_eq_true rfl) (Nat.le_of_ble_eq_true rfl) (Nat.le_of_ble_eq_true rfl) (Nat.le_of_ble_eq_true rfl) (Nat.le_of_ble_eq_true rfl) (s_X5_isWord (i := 7) G hr kw ko (by decide) htk2 (fun r24 e24_z => ?_))
      have e24b : r24.toInt = 0 := e24_z.elim (fun h_z => absurd h_z.2 hc_z) (fun h_z => h_z.1)
      refine t_ifeq (t := 57) dX5_readBoth_27 (by decide) (fun h27 => ?_) (fun h27 => False.elim (by omega))
      refine n_iconst dX5_readBoth_57 (by decide) (fun r57 e57 => ?_)
      refine m_zret dX5_readBoth_58 rfl (by omega) (Nat.le_of_ble_eq_true rfl) (Nat.le_of_ble_eq_true rfl) ?_
      rw [← hv] at hQ
      exact hQ _ _ f2_z ofr (fun _ => ⟨e57, htk2, hok⟩) (fun h_z => absurd rfl h_z)
  have gp := hgd p hpn
  by_cases hq : ((unP B n (if lm = 5 then 8 else 6) 2) p).1 = 0
  · obtain ⟨y1, y2, y3, y4⟩ := gp.1 hq
    have hz : ((unP B n (if lm = 5 then 8 else 6) 2) p) = (0, ((unP B n (if lm = 5 then 8 else 6) 2) p).2.1, ((unP B n (if lm = 5 then 8 else 6) 2) p).2.2) := Prod.ext hq rfl
    refine r_aloadR0 dX5_readBoth_0 ?_
    refine r_iload1 dX5_readBoth_1 ?_
    refine q_callV1 zm_RX5_176 dX5_readBoth_2 hr.1 (by decide) rfl (Nat.le_of_ble_eq_true rfl) (Nat.le_of_ble_eq_true rfl) (Nat.le_of_ble_eq_true rfl) (Nat.le_of_ble_eq_true rfl) (Nat.le_of_ble_eq_true rfl) (s_X5_readUnit_2 G hr kw ko htp htk hx hol hu hup (fun r2 v2 g2 o2 a2 b2 => ?_))
    have a2b : ((unP B n (if lm = 5 then 8 else 6) 2) p).1 = 0 → r2.toInt = 1 ∧ tkR ca B n g2 v2 A ((unP B n (if lm = 5 then 8 else 6) 2) p).2.1 ∧ okR f g2 A u ((unP B n (if lm = 5 then 8 else 6) 2) p).2.2 := a2
    have b2b : ((unP B n (if lm = 5 then 8 else 6) 2) p).1 ≠ 0 → r2.toInt = 0 ∧ flR g2 A ((unP B n (if lm = 5 then 8 else 6) 2) p).1 ((unP B n (if lm = 5 then 8 else 6) 2) p).2.1 := b2
    obtain ⟨c2_z, t2, k2_z⟩ := a2b hq
    refine t_ifne (t := 10) dX5_readBoth_5 (by decide) (fun h5 => ?_) (fun h5 => False.elim (by omega))
    refine n_iconst dX5_readBoth_10 (by decide) (fun r10 e10_z => ?_)
    refine r_istore2 dX5_readBoth_11 rfl ?_
    exact lp (n + 1) _ 0 n ((unP B n (if lm = 5 then 8 else 6) 2) p).2.1 ((unP B n (if lm = 5 then 8 else 6) 2) p).2.2 g2 _ (by omega) o2 t2 k2_z (by omega) y2 y3 (by omega) (by rw [← hz]; rfl) (Nat.lt_succ_self n)
  · have hv : chP B n (unP B n (if lm = 5 then 8 else 6) 2) (opA B n) p = ((unP B n (if lm = 5 then 8 else 6) 2) p) := lpP_bad hq
    rw [hv] at hQ
    refine r_aloadR0 dX5_readBoth_0 ?_
    refine r_iload1 dX5_readBoth_1 ?_
    refine q_callV1 zm_RX5_176 dX5_readBoth_2 hr.1 (by decide) rfl (Nat.le_of_ble_eq_true rfl) (Nat.le_of_ble_eq_true rfl) (Nat.le_of_ble_eq_true rfl) (Nat.le_of_ble_eq_true rfl) (Nat.le_of_ble_eq_true rfl) (s_X5_readUnit_2 G hr kw ko htp htk hx hol hu hup (fun r2 v2 g2 o2 a2 b2 => ?_))
    have a2b : ((unP B n (if lm = 5 then 8 else 6) 2) p).1 = 0 → r2.toInt = 1 ∧ tkR ca B n g2 v2 A ((unP B n (if lm = 5 then 8 else 6) 2) p).2.1 ∧ okR f g2 A u ((unP B n (if lm = 5 then 8 else 6) 2) p).2.2 := a2
    have b2b : ((unP B n (if lm = 5 then 8 else 6) 2) p).1 ≠ 0 → r2.toInt = 0 ∧ flR g2 A ((unP B n (if lm = 5 then 8 else 6) 2) p).1 ((unP B n (if lm = 5 then 8 else 6) 2) p).2.1 := b2
    obtain ⟨c2_z, l2⟩ := b2b hq
    refine t_ifne (t := 10) dX5_readBoth_5 (by decide) (fun h5 => False.elim (by omega)) (fun h5 => ?_)
    refine n_iconst dX5_readBoth_8 (by decide) (fun r8 e8 => ?_)
    refine m_zret dX5_readBoth_9 rfl (by omega) (Nat.le_of_ble_eq_true rfl) (Nat.le_of_ble_eq_true rfl) ?_
    exact hQ _ _ g2 o2 (fun h_z => absurd h_z hq) (fun _ => ⟨e8, l2⟩)
set_option maxHeartbeats 4000000 in
set_option maxRecDepth 100000 in
theorem s_X5_readTruth_2 {g : zGT} {w : zW} {f : Nat → Nat → Int32} {j : Nat → Nat → Int64} {A tq nq : Nat} {v : Option Nat} {B : Nat → Nat} {n : Nat} {ca wa wv : Nat → Nat} {kq ta sm gq gv : Nat} {p lm u : Nat} {x : Int32} {Q : Option Value → zW → Prop} {QX : String → zW → Prop} (G : zGok g) (hr : shRd w A tq nq) (kw : kWd g wa wv kq) (ko : kWo g ca wa wv ta sm gq gv) (htp : tpR B n f A tq) (htk : tkR ca B n f v A p) (hx : x.toInt = 4) (hol : (f A 10).toInt = if lm = 5 then 1 else 0) (hu : (f A 9).toInt = (u : Nat)) (hup : u ≤ p) (hQ : ∀ (b : Int32) v2 f2_z, frM A [8] [2, 3, 4, 5, 9, 11, 12] f f2_z → ((chP B n (chP B n (unP B n (if lm = 5 then 8 else 6) 2) (opA B n)) (opO B n) p).1 = 0 → b.toInt = 1 ∧ tkR ca B n f2_z v2 A (chP B n (chP B n (unP B n (if lm = 5 then 8 else 6) 2) (opA B n)) (opO B n) p).2.1 ∧ okR f f2_z A u (chP B n (chP B n (unP B n (if lm = 5 then 8 else 6) 2) (opA B n)) (opO B n) p).2.2) → ((chP B n (chP B n (unP B n (if lm = 5 then 8 else 6) 2) (opA B n)) (opO B n) p).1 ≠ 0 → b.toInt = 0 ∧ flR f2_z A (chP B n (chP B n (unP B n (if lm = 5 then 8 else 6) 2) (opA B n)) (opO B n) p).1 (chP B n (chP B n (unP B n (if lm = 5 then 8 else 6) 2) (opA B n)) (opO B n) p).2.1) → Q (some (.int b)) (zM (wW w A v2) f2_z j)) : zC g 50 yX5_readTruth cX5_readTruth 3 (some .boolean) [.ref A, .int x] (zM (wW w A v) f j) (0, 0) Q QX := by
  refine zC_of G (by decide +kernel) (Nat.le_of_ble_eq_true rfl) ?_
  have ht := hr.2.2.2.2.2.2
  have h4 := htk.2.2.2.1
  have hpn := htk.1
  have h900 := htp.2.1
  have hgd : ∀ s, s ≤ n → gdP n true (if lm = 5 then 8 else 6) (4 + 2 * 2 + 1) s ((chP B n (unP B n (if lm = 5 then 8 else 6) 2) (opA B n)) s) := fun s hs9 => gd_ch (gd_un (by split <;> decide) 2) hop_A hs9
  have lp : ∀ (mz : Nat) (uu : Int32) (i : Nat) (k : Nat) (ps : Nat) (c : List Nat) (f2_z : Nat → Nat → Int32) (vv : Option Nat), uu.toInt = (i : Nat) → frM A [8] [2, 3, 4, 5, 9, 11, 12] f f2_z → tkR ca B n f2_z vv A ps → okR f f2_z A u c → p + i < ps → ps ≤ n → c.length + p ≤ ps → n ≤ k + ps → lpP B n (chP B n (unP B n (if lm = 5 then 8 else 6) 2) (opA B n)) (opO B n) k (0, ps, c) = chP B n (chP B n (unP B n (if lm = 5 then 8 else 6) 2) (opA B n)) (opO B n) p → k < mz → zR (zV g 50 yX5_readTruth 3 (some .boolean) (0, 0) Q QX) cX5_readTruth yX5_readTruth.cls 12 [some (.ref A), some (.int x), some (.int uu)] [] (zM (wW w A vv) f2_z j) (0, 0) := by
    intro mz
    induction mz with
    | zero =>
      intro uu i k ps c f2_z vv hui ofr htk2 hok hpi hps hcl hnk hR hmz
      exact absurd hmz (Nat.not_lt_zero _)
    | succ mz ih =>
      intro uu i k ps c f2_z vv hui ofr htk2 hok hpi hps hcl hnk hR hmz
      have htp2 := tpR_of htp ht ofr (by decide)
      have h1 := htp2.1
      have htk4 := htk2.2.2.2.1
      have hi9 : i < n := by omega
      by_cases hc_z : isWd B n ps 6 = true
      · have hop : (opO B n) ps = 2002 := if_pos hc_z
        have hop0 : (opO B n) ps ≠ 0 := by rw [hop]; decide
        have hln := tk_lt (B := B) (n := n) (s := ps) (by rw [(isWd_tk hc_z).1]; decide)
        obtain ⟨k2_z, rfl⟩ : ∃ k2_z, k = k2_z + 1 := ⟨k - 1, by omega⟩
        have hnx := nxP_gt (B := B) hln
        have gq := hgd _ hnx.2
        by_cases hq : ((chP B n (unP B n (if lm = 5 then 8 else 6) 2) (opA B n)) (nxP B n ps)).1 = 0
        · obtain ⟨y1, y2, y3, y4⟩ := gq.1 hq
          refine r_iload2 dX5_readTruth_12 ?_
          refine r_aloadR0 dX5_readTruth_13 ?_
          refine m_getV (x := (f2_z A 1)) zf_RX5_15 rfl dX5_readTruth_14 hr.1 (rfl) ?_
          refine t_icge (t := 57) dX5_readTruth_17 (by decide) (fun h17 => False.elim (by omega)) (fun h17 => ?_)
          refine r_aloadR0 dX5_readTruth_20 ?_
          refine k_gets (ko.2.1 ("OR", 6) (List.mem_of_getElem? (i := 8) rfl)) zg_RX5_167 dX5_readTruth_21 ?_
          refine q_callV1 zm_RX5_170 dX5_readTruth_24 hr.1 (by decide) rfl (Nat.le_of_ble_eq_true rfl) (Nat.le_of_ble_eq_true rfl) (Nat.le_of_ble_eq_true rfl) (Nat.le_of_ble_eq_true rfl) (Nat.le_of_ble_eq_true rfl) (s_X5_isWord (i := 6) G hr kw ko (by decide) htk2 (fun r24 e24_z => ?_))
          have e24b : r24.toInt = 1 := e24_z.elim (fun h_z => h_z.1) (fun h_z => absurd hc_z h_z.2)
          refine t_ifeq (t := 57) dX5_readTruth_27 (by decide) (fun h27 => False.elim (by omega)) (fun h27 => ?_)
          refine r_aloadR0 dX5_readTruth_30 ?_
          refine q_callV0 zm_RX5_73 dX5_readTruth_31 hr.1 (by decide) rfl (Nat.le_of_ble_eq_true rfl) (Nat.le_of_ble_eq_true rfl) (Nat.le_of_ble_eq_true rfl) (Nat.le_of_ble_eq_true rfl) (Nat.le_of_ble_eq_true rfl) (s_X5_next (p := teP B n ps) G hr kw ko htp2 htk2.2.1 (teP_le htk2.1) htk2.2.2.2.2.2.2 (fun v31 g31 o31 t31 => ?_))
          have t31 : tkR ca B n g31 v31 A (nxP B n ps) := t31
          have htpn := tpR_of htp2 ht o31 (by decide)
          have wn : g31 (A + 8) = f2_z (A + 8) := o31.2.1 8 (by decide) (by decide) (by decide)
          refine r_aloadR0 dX5_readTruth_34 ?_
          refine r_iload1 dX5_readTruth_35 ?_
          refine q_callV1 zm_RX5_164 dX5_readTruth_36 hr.1 (by decide) rfl (Nat.le_of_ble_eq_true rfl) (Nat.le_of_ble_eq_true rfl) (Nat.le_of_ble_eq_true rfl) (Nat.le_of_ble_eq_true rfl) (Nat.le_of_ble_eq_true rfl) (s_X5_readBoth_2 (lm := lm) (u := u + c.length) G hr kw ko htpn t31 hx (by rw [o31.2.2 10 (by decide), ofr.2.2 10 (by decide)]; exact hol) (by rw [o31.2.2 9 (by decide)]; exact hok.1) (by omega) (fun rs vs gs os as bs => ?_))
          have as2 : ((chP B n (unP B n (if lm = 5 then 8 else 6) 2) (opA B n)) (nxP B n ps)).1 = 0 → rs.toInt = 1 ∧ tkR ca B n gs vs A ((chP B n (unP B n (if lm = 5 then 8 else 6) 2) (opA B n)) (nxP B n ps)).2.1 ∧ okR g31 gs A (u + c.length) ((chP B n (unP B n (if lm = 5 then 8 else 6) 2) (opA B n)) (nxP B n ps)).2.2 := as
          have bs2 : ((chP B n (unP B n (if lm = 5 then 8 else 6) 2) (opA B n)) (nxP B n ps)).1 ≠ 0 → rs.toInt = 0 ∧ flR gs A ((chP B n (unP B n (if lm = 5 then 8 else 6) 2) (opA B n)) (nxP B n ps)).1 ((chP B n (unP B n (if lm = 5 then 8 else 6) 2) (opA B n)) (nxP B n ps)).2.1 := bs
          have ofs : frM A [8] [2, 3, 4, 5, 9, 11, 12] f gs := frM_tr ofr (frM_tr (frM_su o31 (by decide) (by decide)) os)
          obtain ⟨cs, ts, ks⟩ := as2 hq
          refine t_ifne (t := 44) dX5_readTruth_39 (by decide) (fun h39 => ?_) (fun h39 => False.elim (by omega))
          refine r_aloadR0 dX5_readTruth_44 ?_
          refine n_sipush dX5_readTruth_45 (by decide) (fun r45 e45 => ?_)
          refine q_callV1 zm_RX5_173 dX5_readTruth_48 hr.1 (by decide) rfl (Nat.le_of_ble_eq_true rfl) (Nat.le_of_ble_eq_true rfl) (Nat.le_of_ble_eq_true rfl) (Nat.le_of_ble_eq_true rfl) (Nat.le_of_ble_eq_true rfl) (s_X5_emit (u := u + c.length + ((chP B n (unP B n (if lm = 5 then 8 else 6) 2) (opA B n)) (nxP B n ps)).2.2.length) G hr ks.1 (by omega) (fun g48 o48 a48 b48 c48 => ?_))
          refine n_iinc2 dX5_readTruth_51 (by decide) rfl (by omega) (fun r51 e51 => ?_)
          refine r_goto (t := 12) dX5_readTruth_54 (by decide) ?_
          refine ih _ (i + 1) k2_z ((chP B n (unP B n (if lm = 5 then 8 else 6) 2) (opA B n)) (nxP B n ps)).2.1 (c ++ ((chP B n (unP B n (if lm = 5 then 8 else 6) 2) (opA B n)) (nxP B n ps)).2.2 ++ [(opO B n) ps]) g48 _ (by omega) (frM_tr ofs (frM_su o48 (by decide) (by decide))) (tkR_of ts o48 (by decide) (by decide) (by decide) (by decide)) (okR_ap (okR_ap hok (okR_cg ks wn rfl rfl)) ?_) (by omega) y2 ?_ (by omega) ?_ (by omega)
          · rw [List.length_append, ← Nat.add_assoc, hop]
            exact okR_one a48 b48 c48 (by omega)
          · rw [List.length_append, List.length_append, List.length_singleton]
            omega
          · exact (lpP_on (r := (0, ps, c)) rfl hop0 hq).symm.trans hR
        · have hv : ((chP B n (unP B n (if lm = 5 then 8 else 6) 2) (opA B n)) (nxP B n ps)) = chP B n (chP B n (unP B n (if lm = 5 then 8 else 6) 2) (opA B n)) (opO B n) p := (lpP_sub (k := k2_z) (r := (0, ps, c)) rfl hop0 hq).symm.trans hR
          refine r_iload2 dX5_readTruth_12 ?_
          refine r_aloadR0 dX5_readTruth_13 ?_
          refine m_getV (x := (f2_z A 1)) zf_RX5_15 rfl dX5_readTruth_14 hr.1 (rfl) ?_
          refine t_icge (t := 57) dX5_readTruth_17 (by decide) (fun h17 => False.elim (by omega)) (fun h17 => ?_)
          refine r_aloadR0 dX5_readTruth_20 ?_
          refine k_gets (ko.2.1 ("OR", 6) (List.mem_of_getElem? (i := 8) rfl)) zg_RX5_167 dX5_readTruth_21 ?_
          refine q_callV1 zm_RX5_170 dX5_readTruth_24 hr.1 (by decide) rfl (Nat.le_of_ble_eq_true rfl) (Nat.le_of_ble_eq_true rfl) (Nat.le_of_ble_eq_true rfl) (Nat.le_of_ble_eq_true rfl) (Nat.le_of_ble_eq_true rfl) (s_X5_isWord (i := 6) G hr kw ko (by decide) htk2 (fun r24 e24_z => ?_))
          have e24b : r24.toInt = 1 := e24_z.elim (fun h_z => h_z.1) (fun h_z => absurd hc_z h_z.2)
          refine t_ifeq (t := 57) dX5_readTruth_27 (by decide) (fun h27 => False.elim (by omega)) (fun h27 => ?_)
          refine r_aloadR0 dX5_readTruth_30 ?_
          refine q_callV0 zm_RX5_73 dX5_readTruth_31 hr.1 (by decide) rfl (Nat.le_of_ble_eq_true rfl) (Nat.le_of_ble_eq_true rfl) (Nat.le_of_ble_eq_true rfl) (Nat.le_of_ble_eq_true rfl) (Nat.le_of_ble_eq_true rfl) (s_X5_next (p := teP B n ps) G hr kw ko htp2 htk2.2.1 (teP_le htk2.1) htk2.2.2.2.2.2.2 (fun v31 g31 o31 t31 => ?_))
          have t31 : tkR ca B n g31 v31 A (nxP B n ps) := t31
          have htpn := tpR_of htp2 ht o31 (by decide)
          have wn : g31 (A + 8) = f2_z (A + 8) := o31.2.1 8 (by decide) (by decide) (by decide)
          refine r_aloadR0 dX5_readTruth_34 ?_
          refine r_iload1 dX5_readTruth_35 ?_
          refine q_callV1 zm_RX5_164 dX5_readTruth_36 hr.1 (by decide) rfl (Nat.le_of_ble_eq_true rfl) (Nat.le_of_ble_eq_true rfl) (Nat.le_of_ble_eq_true rfl) (Nat.le_of_ble_eq_true rfl) (Nat.le_of_ble_eq_true rfl) (s_X5_readBoth_2 (lm := lm) (u := u + c.length) G hr kw ko htpn t31 hx (by rw [o31.2.2 10 (by decide), ofr.2.2 10 (by decide)]; exact hol) (by rw [o31.2.2 9 (by decide)]; exact hok.1) (by omega) (fun rs vs gs os as bs => ?_))
          have as2 : ((chP B n (unP B n (if lm = 5 then 8 else 6) 2) (opA B n)) (nxP B n ps)).1 = 0 → rs.toInt = 1 ∧ tkR ca B n gs vs A ((chP B n (unP B n (if lm = 5 then 8 else 6) 2) (opA B n)) (nxP B n ps)).2.1 ∧ okR g31 gs A (u + c.length) ((chP B n (unP B n (if lm = 5 then 8 else 6) 2) (opA B n)) (nxP B n ps)).2.2 := as
          have bs2 : ((chP B n (unP B n (if lm = 5 then 8 else 6) 2) (opA B n)) (nxP B n ps)).1 ≠ 0 → rs.toInt = 0 ∧ flR gs A ((chP B n (unP B n (if lm = 5 then 8 else 6) 2) (opA B n)) (nxP B n ps)).1 ((chP B n (unP B n (if lm = 5 then 8 else 6) 2) (opA B n)) (nxP B n ps)).2.1 := bs
          have ofs : frM A [8] [2, 3, 4, 5, 9, 11, 12] f gs := frM_tr ofr (frM_tr (frM_su o31 (by decide) (by decide)) os)
          obtain ⟨cs, ls⟩ := bs2 hq
          refine t_ifne (t := 44) dX5_readTruth_39 (by decide) (fun h39 => False.elim (by omega)) (fun h39 => ?_)
          refine n_iconst dX5_readTruth_42 (by decide) (fun r42 e42_z => ?_)
          refine m_zret dX5_readTruth_43 rfl (by omega) (Nat.le_of_ble_eq_true rfl) (Nat.le_of_ble_eq_true rfl) ?_
          rw [← hv] at hQ
          exact hQ _ _ gs ofs (fun h_z => absurd h_z hq) (fun _ => ⟨e42_z, ls⟩)
      have hop : (opO B n) ps = 0 := if_neg hc_z
      have hv := (lpP_end (B := B) (n := n) (k := k) (sub := (chP B n (unP B n (if lm = 5 then 8 else 6) 2) (opA B n))) (r := (0, ps, c)) hop).symm.trans hR
      refine r_iload2 dX5_readTruth_12 ?_
      refine r_aloadR0 dX5_readTruth_13 ?_
      refine m_getV (x := (f2_z A 1)) zf_RX5_15 rfl dX5_readTruth_14 hr.1 (rfl) ?_
      refine t_icge (t := 57) dX5_readTruth_17 (by decide) (fun h17 => False.elim (by omega)) (fun h17 => ?_)
      refine r_aloadR0 dX5_readTruth_20 ?_
      refine k_gets (ko.2.1 ("OR", 6) (List.mem_of_getElem? (i := 8) rfl)) zg_RX5_167 dX5_readTruth_21 ?_
      refine q_callV1 zm_RX5_170 dX5_readTruth_24 hr.1 (by decide) rfl (Nat.le_of_ble_eq_true rfl) (Nat.le_of_ble_eq_true rfl) (Nat.le_of_ble_eq_true rfl) (Nat.le_of_ble_eq_true rfl) (Nat.le_of_ble_eq_true rfl) (s_X5_isWord (i := 6) G hr kw ko (by decide) htk2 (fun r24 e24_z => ?_))
      have e24b : r24.toInt = 0 := e24_z.elim (fun h_z => absurd h_z.2 hc_z) (fun h_z => h_z.1)
      refine t_ifeq (t := 57) dX5_readTruth_27 (by decide) (fun h27 => ?_) (fun h27 => False.elim (by omega))
      refine n_iconst dX5_readTruth_57 (by decide) (fun r57 e57 => ?_)
      refine m_zret dX5_readTruth_58 rfl (by omega) (Nat.le_of_ble_eq_true rfl) (Nat.le_of_ble_eq_true rfl) ?_
      rw [← hv] at hQ
      exact hQ _ _ f2_z ofr (fun _ => ⟨e57, htk2, hok⟩) (fun h_z => absurd rfl h_z)
  have gp := hgd p hpn
  by_cases hq : ((chP B n (unP B n (if lm = 5 then 8 else 6) 2) (opA B n)) p).1 = 0
  · obtain ⟨y1, y2, y3, y4⟩ := gp.1 hq
    have hz : ((chP B n (unP B n (if lm = 5 then 8 else 6) 2) (opA B n)) p) = (0, ((chP B n (unP B n (if lm = 5 then 8 else 6) 2) (opA B n)) p).2.1, ((chP B n (unP B n (if lm = 5 then 8 else 6) 2) (opA B n)) p).2.2) := Prod.ext hq rfl
    refine r_aloadR0 dX5_readTruth_0 ?_
    refine r_iload1 dX5_readTruth_1 ?_
    refine q_callV1 zm_RX5_164 dX5_readTruth_2 hr.1 (by decide) rfl (Nat.le_of_ble_eq_true rfl) (Nat.le_of_ble_eq_true rfl) (Nat.le_of_ble_eq_true rfl) (Nat.le_of_ble_eq_true rfl) (Nat.le_of_ble_eq_true rfl) (s_X5_readBoth_2 G hr kw ko htp htk hx hol hu hup (fun r2 v2 g2 o2 a2 b2 => ?_))
    have a2b : ((chP B n (unP B n (if lm = 5 then 8 else 6) 2) (opA B n)) p).1 = 0 → r2.toInt = 1 ∧ tkR ca B n g2 v2 A ((chP B n (unP B n (if lm = 5 then 8 else 6) 2) (opA B n)) p).2.1 ∧ okR f g2 A u ((chP B n (unP B n (if lm = 5 then 8 else 6) 2) (opA B n)) p).2.2 := a2
    have b2b : ((chP B n (unP B n (if lm = 5 then 8 else 6) 2) (opA B n)) p).1 ≠ 0 → r2.toInt = 0 ∧ flR g2 A ((chP B n (unP B n (if lm = 5 then 8 else 6) 2) (opA B n)) p).1 ((chP B n (unP B n (if lm = 5 then 8 else 6) 2) (opA B n)) p).2.1 := b2
    obtain ⟨c2_z, t2, k2_z⟩ := a2b hq
    refine t_ifne (t := 10) dX5_readTruth_5 (by decide) (fun h5 => ?_) (fun h5 => False.elim (by omega))
    refine n_iconst dX5_readTruth_10 (by decide) (fun r10 e10_z => ?_)
    refine r_istore2 dX5_readTruth_11 rfl ?_
    exact lp (n + 1) _ 0 n ((chP B n (unP B n (if lm = 5 then 8 else 6) 2) (opA B n)) p).2.1 ((chP B n (unP B n (if lm = 5 then 8 else 6) 2) (opA B n)) p).2.2 g2 _ (by omega) o2 t2 k2_z (by omega) y2 y3 (by omega) (by rw [← hz]; rfl) (Nat.lt_succ_self n)
  · have hv : chP B n (chP B n (unP B n (if lm = 5 then 8 else 6) 2) (opA B n)) (opO B n) p = ((chP B n (unP B n (if lm = 5 then 8 else 6) 2) (opA B n)) p) := lpP_bad hq
    rw [hv] at hQ
    refine r_aloadR0 dX5_readTruth_0 ?_
    refine r_iload1 dX5_readTruth_1 ?_
    refine q_callV1 zm_RX5_164 dX5_readTruth_2 hr.1 (by decide) rfl (Nat.le_of_ble_eq_true rfl) (Nat.le_of_ble_eq_true rfl) (Nat.le_of_ble_eq_true rfl) (Nat.le_of_ble_eq_true rfl) (Nat.le_of_ble_eq_true rfl) (s_X5_readBoth_2 G hr kw ko htp htk hx hol hu hup (fun r2 v2 g2 o2 a2 b2 => ?_))
    have a2b : ((chP B n (unP B n (if lm = 5 then 8 else 6) 2) (opA B n)) p).1 = 0 → r2.toInt = 1 ∧ tkR ca B n g2 v2 A ((chP B n (unP B n (if lm = 5 then 8 else 6) 2) (opA B n)) p).2.1 ∧ okR f g2 A u ((chP B n (unP B n (if lm = 5 then 8 else 6) 2) (opA B n)) p).2.2 := a2
    have b2b : ((chP B n (unP B n (if lm = 5 then 8 else 6) 2) (opA B n)) p).1 ≠ 0 → r2.toInt = 0 ∧ flR g2 A ((chP B n (unP B n (if lm = 5 then 8 else 6) 2) (opA B n)) p).1 ((chP B n (unP B n (if lm = 5 then 8 else 6) 2) (opA B n)) p).2.1 := b2
    obtain ⟨c2_z, l2⟩ := b2b hq
    refine t_ifne (t := 10) dX5_readTruth_5 (by decide) (fun h5 => False.elim (by omega)) (fun h5 => ?_)
    refine n_iconst dX5_readTruth_8 (by decide) (fun r8 e8 => ?_)
    refine m_zret dX5_readTruth_9 rfl (by omega) (Nat.le_of_ble_eq_true rfl) (Nat.le_of_ble_eq_true rfl) ?_
    exact hQ _ _ g2 o2 (fun h_z => absurd h_z hq) (fun _ => ⟨e8, l2⟩)
set_option maxHeartbeats 4000000 in
set_option maxRecDepth 100000 in
theorem s_X5_readUnit_3 {g : zGT} {w : zW} {f : Nat → Nat → Int32} {j : Nat → Nat → Int64} {A tq nq : Nat} {v : Option Nat} {B : Nat → Nat} {n : Nat} {ca wa wv : Nat → Nat} {kq ta sm gq gv : Nat} {p lm u : Nat} {x : Int32} {Q : Option Value → zW → Prop} {QX : String → zW → Prop} (G : zGok g) (hr : shRd w A tq nq) (kw : kWd g wa wv kq) (ko : kWo g ca wa wv ta sm gq gv) (htp : tpR B n f A tq) (htk : tkR ca B n f v A p) (hx : x.toInt = 3) (hol : (f A 10).toInt = if lm = 5 then 1 else 0) (hu : (f A 9).toInt = (u : Nat)) (hup : u ≤ p) (hQ : ∀ (b : Int32) v2 f2_z, frM A [8] [2, 3, 4, 5, 9, 11, 12] f f2_z → ((unP B n (if lm = 5 then 8 else 6) 3 p).1 = 0 → b.toInt = 1 ∧ tkR ca B n f2_z v2 A (unP B n (if lm = 5 then 8 else 6) 3 p).2.1 ∧ okR f f2_z A u (unP B n (if lm = 5 then 8 else 6) 3 p).2.2) → ((unP B n (if lm = 5 then 8 else 6) 3 p).1 ≠ 0 → b.toInt = 0 ∧ flR f2_z A (unP B n (if lm = 5 then 8 else 6) 3 p).1 (unP B n (if lm = 5 then 8 else 6) 3 p).2.1) → Q (some (.int b)) (zM (wW w A v2) f2_z j)) : zC g 52 yX5_readUnit cX5_readUnit 3 (some .boolean) [.ref A, .int x] (zM (wW w A v) f j) (0, 0) Q QX := by
  refine zC_of G (by decide +kernel) (Nat.le_of_ble_eq_true rfl) ?_
  have ht := hr.2.2.2.2.2.2
  have h4 := htk.2.2.2.1
  have hpn := htk.1
  have h900 := htp.2.1
  have hsm : ∀ s, s ≤ n → gdP n false (if lm = 5 then 8 else 6) (1 + 2 * 3 + 2) s (smP B n (if lm = 5 then 8 else 6) 3 s) := fun s hs9 => gd_su (gd_at (by split <;> decide) 3) hs9
  by_cases hw : isWd B n p 8 = true
  · have hv : unP B n (if lm = 5 then 8 else 6) 3 p = noP ((unP B n (if lm = 5 then 8 else 6) 2) (nxP B n p)) := if_pos hw
    rw [hv] at hQ
    have hwt := isWd_tk hw
    have hln := tk_lt (B := B) (n := n) (s := p) (by rw [hwt.1]; decide)
    have hnx := nxP_gt (B := B) hln
    have hgu : gdP n true (if lm = 5 then 8 else 6) (4 + 2 * 2) (nxP B n p) ((unP B n (if lm = 5 then 8 else 6) 2) (nxP B n p)) := gd_un (by split <;> decide) 2 _ hnx.2
    by_cases hq : ((unP B n (if lm = 5 then 8 else 6) 2) (nxP B n p)).1 = 0
    · have hv2 : noP ((unP B n (if lm = 5 then 8 else 6) 2) (nxP B n p)) = (0, ((unP B n (if lm = 5 then 8 else 6) 2) (nxP B n p)).2.1, ((unP B n (if lm = 5 then 8 else 6) 2) (nxP B n p)).2.2 ++ [2000]) := if_neg (not_not_intro hq)
      rw [hv2] at hQ
      obtain ⟨y1, y2, y3, y4⟩ := hgu.1 hq
      refine r_aloadR0 dX5_readUnit_0 ?_
      refine k_gets (ko.2.1 ("NOT", 8) (List.mem_of_getElem? (i := 4) rfl)) zg_RX5_182 dX5_readUnit_1 ?_
      refine q_callV1 zm_RX5_170 dX5_readUnit_4 hr.1 (by decide) rfl (Nat.le_of_ble_eq_true rfl) (Nat.le_of_ble_eq_true rfl) (Nat.le_of_ble_eq_true rfl) (Nat.le_of_ble_eq_true rfl) (Nat.le_of_ble_eq_true rfl) (s_X5_isWord (i := 8) G hr kw ko (by decide) htk (fun r4 e4_z => ?_))
      have e4b : r4.toInt = 1 := e4_z.elim (fun h_z => h_z.1) (fun h_z => absurd hw h_z.2)
      refine t_ifeq (t := 39) dX5_readUnit_7 (by decide) (fun h7 => False.elim (by omega)) (fun h7 => ?_)
      refine r_aloadR0 dX5_readUnit_10 ?_
      refine r_iload1 dX5_readUnit_11 ?_
      refine q_callV1 zm_RX5_185 dX5_readUnit_12 hr.1 (by decide) rfl (Nat.le_of_ble_eq_true rfl) (Nat.le_of_ble_eq_true rfl) (Nat.le_of_ble_eq_true rfl) (Nat.le_of_ble_eq_true rfl) (Nat.le_of_ble_eq_true rfl) (s_X5_goDeeper (d := 3) G hr kw ko htp hx htk (fun rd vd gd od ad bd => ?_))
      obtain ⟨cd, td⟩ := ad (by decide)
      have htpd := tpR_of htp ht od (by decide)
      have wd : gd (A + 8) = f (A + 8) := od.2.1 8 (by decide) (by decide) (by decide)
      refine t_ifeq (t := 28) dX5_readUnit_15 (by decide) (fun h15 => False.elim (by omega)) (fun h15 => ?_)
      refine r_aloadR0 dX5_readUnit_18 ?_
      refine r_iload1 dX5_readUnit_19 ?_
      refine n_iconst dX5_readUnit_20 (by decide) (fun r20 e20 => ?_)
      refine n_iadd dX5_readUnit_21 (by omega) (fun r21 e21_z => ?_)
      refine q_callV1 zm_RX5_176 dX5_readUnit_22 hr.1 (by decide) rfl (Nat.le_of_ble_eq_true rfl) (Nat.le_of_ble_eq_true rfl) (Nat.le_of_ble_eq_true rfl) (Nat.le_of_ble_eq_true rfl) (Nat.le_of_ble_eq_true rfl) (s_X5_readUnit_2 (lm := lm) (u := u) G hr kw ko htpd td (by omega) (by rw [od.2.2 10 (by decide)]; exact hol) (by rw [od.2.2 9 (by decide)]; exact hu) (by omega) (fun rs vs gs os as bs => ?_))
      have as2 : ((unP B n (if lm = 5 then 8 else 6) 2) (nxP B n p)).1 = 0 → rs.toInt = 1 ∧ tkR ca B n gs vs A ((unP B n (if lm = 5 then 8 else 6) 2) (nxP B n p)).2.1 ∧ okR gd gs A u ((unP B n (if lm = 5 then 8 else 6) 2) (nxP B n p)).2.2 := as
      have bs2 : ((unP B n (if lm = 5 then 8 else 6) 2) (nxP B n p)).1 ≠ 0 → rs.toInt = 0 ∧ flR gs A ((unP B n (if lm = 5 then 8 else 6) 2) (nxP B n p)).1 ((unP B n (if lm = 5 then 8 else 6) 2) (nxP B n p)).2.1 := bs
      have ofs : frM A [8] [2, 3, 4, 5, 9, 11, 12] f gs := frM_tr (frM_su od (by decide) (by decide)) os
      obtain ⟨cs, ts, ks⟩ := as2 hq
      refine t_ifne (t := 30) dX5_readUnit_25 (by decide) (fun h25 => ?_) (fun h25 => False.elim (by omega))
      refine r_aloadR0 dX5_readUnit_30 ?_
      refine n_sipush dX5_readUnit_31 (by decide) (fun r31 e31_z => ?_)
      refine q_callV1 zm_RX5_173 dX5_readUnit_34 hr.1 (by decide) rfl (Nat.le_of_ble_eq_true rfl) (Nat.le_of_ble_eq_true rfl) (Nat.le_of_ble_eq_true rfl) (Nat.le_of_ble_eq_true rfl) (Nat.le_of_ble_eq_true rfl) (s_X5_emit (u := u + ((unP B n (if lm = 5 then 8 else 6) 2) (nxP B n p)).2.2.length) G hr ks.1 (by omega) (fun g34 o34 a34 b34 c34 => ?_))
      refine n_iconst dX5_readUnit_37 (by decide) (fun r37 e37 => ?_)
      refine m_zret dX5_readUnit_38 rfl (by omega) (Nat.le_of_ble_eq_true rfl) (Nat.le_of_ble_eq_true rfl) ?_
      exact hQ _ _ g34 (frM_tr ofs (frM_su o34 (by decide) (by decide))) (fun _ => ⟨e37, tkR_of ts o34 (by decide) (by decide) (by decide) (by decide), okR_ap (okR_cg ks wd rfl rfl) (okR_one a34 b34 c34 (by omega))⟩) (fun h_z => absurd rfl h_z)
    · have hv2 : noP ((unP B n (if lm = 5 then 8 else 6) 2) (nxP B n p)) = ((unP B n (if lm = 5 then 8 else 6) 2) (nxP B n p)) := if_pos hq
      rw [hv2] at hQ
      refine r_aloadR0 dX5_readUnit_0 ?_
      refine k_gets (ko.2.1 ("NOT", 8) (List.mem_of_getElem? (i := 4) rfl)) zg_RX5_182 dX5_readUnit_1 ?_
      refine q_callV1 zm_RX5_170 dX5_readUnit_4 hr.1 (by decide) rfl (Nat.le_of_ble_eq_true rfl) (Nat.le_of_ble_eq_true rfl) (Nat.le_of_ble_eq_true rfl) (Nat.le_of_ble_eq_true rfl) (Nat.le_of_ble_eq_true rfl) (s_X5_isWord (i := 8) G hr kw ko (by decide) htk (fun r4 e4_z => ?_))
      have e4b : r4.toInt = 1 := e4_z.elim (fun h_z => h_z.1) (fun h_z => absurd hw h_z.2)
      refine t_ifeq (t := 39) dX5_readUnit_7 (by decide) (fun h7 => False.elim (by omega)) (fun h7 => ?_)
      refine r_aloadR0 dX5_readUnit_10 ?_
      refine r_iload1 dX5_readUnit_11 ?_
      refine q_callV1 zm_RX5_185 dX5_readUnit_12 hr.1 (by decide) rfl (Nat.le_of_ble_eq_true rfl) (Nat.le_of_ble_eq_true rfl) (Nat.le_of_ble_eq_true rfl) (Nat.le_of_ble_eq_true rfl) (Nat.le_of_ble_eq_true rfl) (s_X5_goDeeper (d := 3) G hr kw ko htp hx htk (fun rd vd gd od ad bd => ?_))
      obtain ⟨cd, td⟩ := ad (by decide)
      have htpd := tpR_of htp ht od (by decide)
      have wd : gd (A + 8) = f (A + 8) := od.2.1 8 (by decide) (by decide) (by decide)
      refine t_ifeq (t := 28) dX5_readUnit_15 (by decide) (fun h15 => False.elim (by omega)) (fun h15 => ?_)
      refine r_aloadR0 dX5_readUnit_18 ?_
      refine r_iload1 dX5_readUnit_19 ?_
      refine n_iconst dX5_readUnit_20 (by decide) (fun r20 e20 => ?_)
      refine n_iadd dX5_readUnit_21 (by omega) (fun r21 e21_z => ?_)
      refine q_callV1 zm_RX5_176 dX5_readUnit_22 hr.1 (by decide) rfl (Nat.le_of_ble_eq_true rfl) (Nat.le_of_ble_eq_true rfl) (Nat.le_of_ble_eq_true rfl) (Nat.le_of_ble_eq_true rfl) (Nat.le_of_ble_eq_true rfl) (s_X5_readUnit_2 (lm := lm) (u := u) G hr kw ko htpd td (by omega) (by rw [od.2.2 10 (by decide)]; exact hol) (by rw [od.2.2 9 (by decide)]; exact hu) (by omega) (fun rs vs gs os as bs => ?_))
      have as2 : ((unP B n (if lm = 5 then 8 else 6) 2) (nxP B n p)).1 = 0 → rs.toInt = 1 ∧ tkR ca B n gs vs A ((unP B n (if lm = 5 then 8 else 6) 2) (nxP B n p)).2.1 ∧ okR gd gs A u ((unP B n (if lm = 5 then 8 else 6) 2) (nxP B n p)).2.2 := as
      have bs2 : ((unP B n (if lm = 5 then 8 else 6) 2) (nxP B n p)).1 ≠ 0 → rs.toInt = 0 ∧ flR gs A ((unP B n (if lm = 5 then 8 else 6) 2) (nxP B n p)).1 ((unP B n (if lm = 5 then 8 else 6) 2) (nxP B n p)).2.1 := bs
      have ofs : frM A [8] [2, 3, 4, 5, 9, 11, 12] f gs := frM_tr (frM_su od (by decide) (by decide)) os
      obtain ⟨cs, ls⟩ := bs2 hq
      refine t_ifne (t := 30) dX5_readUnit_25 (by decide) (fun h25 => False.elim (by omega)) (fun h25 => ?_)
      refine n_iconst dX5_readUnit_28 (by decide) (fun r28 e28_z => ?_)
      refine m_zret dX5_readUnit_29 rfl (by omega) (Nat.le_of_ble_eq_true rfl) (Nat.le_of_ble_eq_true rfl) ?_
      exact hQ _ _ gs ofs (fun h_z => absurd h_z hq) (fun _ => ⟨e28_z, ls⟩)
  by_cases hp : tkP B n p = 91
  · have hv : unP B n (if lm = 5 then 8 else 6) 3 p = clP B n 93 (trU B n (unP B n (if lm = 5 then 8 else 6) 2) (nxP B n p)) := (if_neg hw).trans (if_pos hp)
    rw [hv] at hQ
    have hln := tk_lt (B := B) (n := n) (s := p) (by rw [hp]; decide)
    have hnx := nxP_gt (B := B) hln
    by_cases hq : (trU B n (unP B n (if lm = 5 then 8 else 6) 2) (nxP B n p)).1 = 0
    · by_cases h93 : tkP B n (trU B n (unP B n (if lm = 5 then 8 else 6) 2) (nxP B n p)).2.1 = 93
      · have hv2 : clP B n 93 (trU B n (unP B n (if lm = 5 then 8 else 6) 2) (nxP B n p)) = (0, nxP B n (trU B n (unP B n (if lm = 5 then 8 else 6) 2) (nxP B n p)).2.1, (trU B n (unP B n (if lm = 5 then 8 else 6) 2) (nxP B n p)).2.2) := (if_neg (not_not_intro hq)).trans (if_pos h93)
        rw [hv2] at hQ
        refine r_aloadR0 dX5_readUnit_0 ?_
        refine k_gets (ko.2.1 ("NOT", 8) (List.mem_of_getElem? (i := 4) rfl)) zg_RX5_182 dX5_readUnit_1 ?_
        refine q_callV1 zm_RX5_170 dX5_readUnit_4 hr.1 (by decide) rfl (Nat.le_of_ble_eq_true rfl) (Nat.le_of_ble_eq_true rfl) (Nat.le_of_ble_eq_true rfl) (Nat.le_of_ble_eq_true rfl) (Nat.le_of_ble_eq_true rfl) (s_X5_isWord (i := 8) G hr kw ko (by decide) htk (fun r4 e4_z => ?_))
        have e4b : r4.toInt = 0 := e4_z.elim (fun h_z => absurd h_z.2 hw) (fun h_z => h_z.1)
        refine t_ifeq (t := 39) dX5_readUnit_7 (by decide) (fun h7 => ?_) (fun h7 => False.elim (by omega))
        refine r_aloadR0 dX5_readUnit_39 ?_
        refine m_getV (x := (f A 4)) zf_RX5_25 rfl dX5_readUnit_40 hr.1 (rfl) ?_
        refine n_bipush dX5_readUnit_43 (by decide) (fun r43 e43 => ?_)
        refine t_icne (t := 81) dX5_readUnit_45 (by decide) (fun h45 => False.elim (by omega)) (fun h45 => ?_)
        refine r_aloadR0 dX5_readUnit_48 ?_
        refine r_iload1 dX5_readUnit_49 ?_
        refine q_callV1 zm_RX5_185 dX5_readUnit_50 hr.1 (by decide) rfl (Nat.le_of_ble_eq_true rfl) (Nat.le_of_ble_eq_true rfl) (Nat.le_of_ble_eq_true rfl) (Nat.le_of_ble_eq_true rfl) (Nat.le_of_ble_eq_true rfl) (s_X5_goDeeper (d := 3) G hr kw ko htp hx htk (fun rd vd gd od ad bd => ?_))
        obtain ⟨cd, td⟩ := ad (by decide)
        have htpd := tpR_of htp ht od (by decide)
        have wd : gd (A + 8) = f (A + 8) := od.2.1 8 (by decide) (by decide) (by decide)
        refine t_ifeq (t := 79) dX5_readUnit_53 (by decide) (fun h53 => False.elim (by omega)) (fun h53 => ?_)
        refine r_aloadR0 dX5_readUnit_56 ?_
        refine r_iload1 dX5_readUnit_57 ?_
        refine n_iconst dX5_readUnit_58 (by decide) (fun r58 e58 => ?_)
        refine n_iadd dX5_readUnit_59 (by omega) (fun r59 e59 => ?_)
        refine q_callV1 zm_RX5_143 dX5_readUnit_60 hr.1 (by decide) rfl (Nat.le_of_ble_eq_true rfl) (Nat.le_of_ble_eq_true rfl) (Nat.le_of_ble_eq_true rfl) (Nat.le_of_ble_eq_true rfl) (Nat.le_of_ble_eq_true rfl) (s_X5_readTruth_2 (lm := lm) (u := u) G hr kw ko htpd td (by omega) (by rw [od.2.2 10 (by decide)]; exact hol) (by rw [od.2.2 9 (by decide)]; exact hu) (by omega) (fun rs vs gs os as bs => ?_))
        have as2 : (trU B n (unP B n (if lm = 5 then 8 else 6) 2) (nxP B n p)).1 = 0 → rs.toInt = 1 ∧ tkR ca B n gs vs A (trU B n (unP B n (if lm = 5 then 8 else 6) 2) (nxP B n p)).2.1 ∧ okR gd gs A u (trU B n (unP B n (if lm = 5 then 8 else 6) 2) (nxP B n p)).2.2 := as
        have bs2 : (trU B n (unP B n (if lm = 5 then 8 else 6) 2) (nxP B n p)).1 ≠ 0 → rs.toInt = 0 ∧ flR gs A (trU B n (unP B n (if lm = 5 then 8 else 6) 2) (nxP B n p)).1 (trU B n (unP B n (if lm = 5 then 8 else 6) 2) (nxP B n p)).2.1 := bs
        have ofs : frM A [8] [2, 3, 4, 5, 9, 11, 12] f gs := frM_tr (frM_su od (by decide) (by decide)) os
        obtain ⟨cs, ts, ks⟩ := as2 hq
        refine t_ifeq (t := 79) dX5_readUnit_63 (by decide) (fun h63 => False.elim (by omega)) (fun h63 => ?_)
        refine r_aloadR0 dX5_readUnit_66 ?_
        refine n_bipush dX5_readUnit_67 (by decide) (fun r67 e67 => ?_)
        refine q_callV1 zm_RX5_102 dX5_readUnit_69 hr.1 (by decide) rfl (Nat.le_of_ble_eq_true rfl) (Nat.le_of_ble_eq_true rfl) (Nat.le_of_ble_eq_true rfl) (Nat.le_of_ble_eq_true rfl) (Nat.le_of_ble_eq_true rfl) (s_X5_takeSign (s := (trU B n (unP B n (if lm = 5 then 8 else 6) 2) (nxP B n p)).2.1) (c := 93) G hr kw ko (tpR_of htp ht ofs (by decide)) e67 ts (fun r69 v69 g69 o69 a69 b69 => ?_))
        obtain ⟨c69, t69⟩ := a69 h93
        refine t_ifeq (t := 79) dX5_readUnit_72 (by decide) (fun h72 => False.elim (by omega)) (fun h72 => ?_)
        refine n_iconst dX5_readUnit_75 (by decide) (fun r75 e75 => ?_)
        refine r_goto (t := 80) dX5_readUnit_76 (by decide) ?_
        refine m_zret dX5_readUnit_80 rfl (by omega) (Nat.le_of_ble_eq_true rfl) (Nat.le_of_ble_eq_true rfl) ?_
        exact hQ _ _ g69 (frM_tr ofs (frM_su o69 (by decide) (by decide))) (fun _ => ⟨e75, t69, okR_cg ks wd (o69.2.1 8 (by decide) (by decide) (by decide)) (o69.2.2 9 (by decide))⟩) (fun h_z => absurd rfl h_z)
      · have hv2 : clP B n 93 (trU B n (unP B n (if lm = 5 then 8 else 6) 2) (nxP B n p)) = (baP B n (trU B n (unP B n (if lm = 5 then 8 else 6) 2) (nxP B n p)).2.1, (trU B n (unP B n (if lm = 5 then 8 else 6) 2) (nxP B n p)).2.1, []) := (if_neg (not_not_intro hq)).trans (if_neg h93)
        rw [hv2] at hQ
        refine r_aloadR0 dX5_readUnit_0 ?_
        refine k_gets (ko.2.1 ("NOT", 8) (List.mem_of_getElem? (i := 4) rfl)) zg_RX5_182 dX5_readUnit_1 ?_
        refine q_callV1 zm_RX5_170 dX5_readUnit_4 hr.1 (by decide) rfl (Nat.le_of_ble_eq_true rfl) (Nat.le_of_ble_eq_true rfl) (Nat.le_of_ble_eq_true rfl) (Nat.le_of_ble_eq_true rfl) (Nat.le_of_ble_eq_true rfl) (s_X5_isWord (i := 8) G hr kw ko (by decide) htk (fun r4 e4_z => ?_))
        have e4b : r4.toInt = 0 := e4_z.elim (fun h_z => absurd h_z.2 hw) (fun h_z => h_z.1)
        refine t_ifeq (t := 39) dX5_readUnit_7 (by decide) (fun h7 => ?_) (fun h7 => False.elim (by omega))
        refine r_aloadR0 dX5_readUnit_39 ?_
        refine m_getV (x := (f A 4)) zf_RX5_25 rfl dX5_readUnit_40 hr.1 (rfl) ?_
        refine n_bipush dX5_readUnit_43 (by decide) (fun r43 e43 => ?_)
        refine t_icne (t := 81) dX5_readUnit_45 (by decide) (fun h45 => False.elim (by omega)) (fun h45 => ?_)
        refine r_aloadR0 dX5_readUnit_48 ?_
        refine r_iload1 dX5_readUnit_49 ?_
        refine q_callV1 zm_RX5_185 dX5_readUnit_50 hr.1 (by decide) rfl (Nat.le_of_ble_eq_true rfl) (Nat.le_of_ble_eq_true rfl) (Nat.le_of_ble_eq_true rfl) (Nat.le_of_ble_eq_true rfl) (Nat.le_of_ble_eq_true rfl) (s_X5_goDeeper (d := 3) G hr kw ko htp hx htk (fun rd vd gd od ad bd => ?_))
        obtain ⟨cd, td⟩ := ad (by decide)
        have htpd := tpR_of htp ht od (by decide)
        have wd : gd (A + 8) = f (A + 8) := od.2.1 8 (by decide) (by decide) (by decide)
        refine t_ifeq (t := 79) dX5_readUnit_53 (by decide) (fun h53 => False.elim (by omega)) (fun h53 => ?_)
        refine r_aloadR0 dX5_readUnit_56 ?_
        refine r_iload1 dX5_readUnit_57 ?_
        refine n_iconst dX5_readUnit_58 (by decide) (fun r58 e58 => ?_)
        refine n_iadd dX5_readUnit_59 (by omega) (fun r59 e59 => ?_)
        refine q_callV1 zm_RX5_143 dX5_readUnit_60 hr.1 (by decide) rfl (Nat.le_of_ble_eq_true rfl) (Nat.le_of_ble_eq_true rfl) (Nat.le_of_ble_eq_true rfl) (Nat.le_of_ble_eq_true rfl) (Nat.le_of_ble_eq_true rfl) (s_X5_readTruth_2 (lm := lm) (u := u) G hr kw ko htpd td (by omega) (by rw [od.2.2 10 (by decide)]; exact hol) (by rw [od.2.2 9 (by decide)]; exact hu) (by omega) (fun rs vs gs os as bs => ?_))
        have as2 : (trU B n (unP B n (if lm = 5 then 8 else 6) 2) (nxP B n p)).1 = 0 → rs.toInt = 1 ∧ tkR ca B n gs vs A (trU B n (unP B n (if lm = 5 then 8 else 6) 2) (nxP B n p)).2.1 ∧ okR gd gs A u (trU B n (unP B n (if lm = 5 then 8 else 6) 2) (nxP B n p)).2.2 := as
        have bs2 : (trU B n (unP B n (if lm = 5 then 8 else 6) 2) (nxP B n p)).1 ≠ 0 → rs.toInt = 0 ∧ flR gs A (trU B n (unP B n (if lm = 5 then 8 else 6) 2) (nxP B n p)).1 (trU B n (unP B n (if lm = 5 then 8 else 6) 2) (nxP B n p)).2.1 := bs
        have ofs : frM A [8] [2, 3, 4, 5, 9, 11, 12] f gs := frM_tr (frM_su od (by decide) (by decide)) os
        obtain ⟨cs, ts, ks⟩ := as2 hq
        refine t_ifeq (t := 79) dX5_readUnit_63 (by decide) (fun h63 => False.elim (by omega)) (fun h63 => ?_)
        refine r_aloadR0 dX5_readUnit_66 ?_
        refine n_bipush dX5_readUnit_67 (by decide) (fun r67 e67 => ?_)
        refine q_callV1 zm_RX5_102 dX5_readUnit_69 hr.1 (by decide) rfl (Nat.le_of_ble_eq_true rfl) (Nat.le_of_ble_eq_true rfl) (Nat.le_of_ble_eq_true rfl) (Nat.le_of_ble_eq_true rfl) (Nat.le_of_ble_eq_true rfl) (s_X5_takeSign (s := (trU B n (unP B n (if lm = 5 then 8 else 6) 2) (nxP B n p)).2.1) (c := 93) G hr kw ko (tpR_of htp ht ofs (by decide)) e67 ts (fun r69 v69 g69 o69 a69 b69 => ?_))
        obtain ⟨c69, l69⟩ := b69 h93
        refine t_ifeq (t := 79) dX5_readUnit_72 (by decide) (fun h72 => ?_) (fun h72 => False.elim (by omega))
        refine n_iconst dX5_readUnit_79 (by decide) (fun r79 e79 => ?_)
        refine m_zret dX5_readUnit_80 rfl (by omega) (Nat.le_of_ble_eq_true rfl) (Nat.le_of_ble_eq_true rfl) ?_
        exact hQ _ _ g69 (frM_tr ofs (frM_su o69 (by decide) (by decide))) (fun h_z => absurd h_z ba_bd.1) (fun _ => ⟨e79, l69⟩)
    · have hv2 : clP B n 93 (trU B n (unP B n (if lm = 5 then 8 else 6) 2) (nxP B n p)) = (trU B n (unP B n (if lm = 5 then 8 else 6) 2) (nxP B n p)) := if_pos hq
      rw [hv2] at hQ
      refine r_aloadR0 dX5_readUnit_0 ?_
      refine k_gets (ko.2.1 ("NOT", 8) (List.mem_of_getElem? (i := 4) rfl)) zg_RX5_182 dX5_readUnit_1 ?_
      refine q_callV1 zm_RX5_170 dX5_readUnit_4 hr.1 (by decide) rfl (Nat.le_of_ble_eq_true rfl) (Nat.le_of_ble_eq_true rfl) (Nat.le_of_ble_eq_true rfl) (Nat.le_of_ble_eq_true rfl) (Nat.le_of_ble_eq_true rfl) (s_X5_isWord (i := 8) G hr kw ko (by decide) htk (fun r4 e4_z => ?_))
      have e4b : r4.toInt = 0 := e4_z.elim (fun h_z => absurd h_z.2 hw) (fun h_z => h_z.1)
      refine t_ifeq (t := 39) dX5_readUnit_7 (by decide) (fun h7 => ?_) (fun h7 => False.elim (by omega))
      refine r_aloadR0 dX5_readUnit_39 ?_
      refine m_getV (x := (f A 4)) zf_RX5_25 rfl dX5_readUnit_40 hr.1 (rfl) ?_
      refine n_bipush dX5_readUnit_43 (by decide) (fun r43 e43 => ?_)
      refine t_icne (t := 81) dX5_readUnit_45 (by decide) (fun h45 => False.elim (by omega)) (fun h45 => ?_)
      refine r_aloadR0 dX5_readUnit_48 ?_
      refine r_iload1 dX5_readUnit_49 ?_
      refine q_callV1 zm_RX5_185 dX5_readUnit_50 hr.1 (by decide) rfl (Nat.le_of_ble_eq_true rfl) (Nat.le_of_ble_eq_true rfl) (Nat.le_of_ble_eq_true rfl) (Nat.le_of_ble_eq_true rfl) (Nat.le_of_ble_eq_true rfl) (s_X5_goDeeper (d := 3) G hr kw ko htp hx htk (fun rd vd gd od ad bd => ?_))
      obtain ⟨cd, td⟩ := ad (by decide)
      have htpd := tpR_of htp ht od (by decide)
      have wd : gd (A + 8) = f (A + 8) := od.2.1 8 (by decide) (by decide) (by decide)
      refine t_ifeq (t := 79) dX5_readUnit_53 (by decide) (fun h53 => False.elim (by omega)) (fun h53 => ?_)
      refine r_aloadR0 dX5_readUnit_56 ?_
      refine r_iload1 dX5_readUnit_57 ?_
      refine n_iconst dX5_readUnit_58 (by decide) (fun r58 e58 => ?_)
      refine n_iadd dX5_readUnit_59 (by omega) (fun r59 e59 => ?_)
      refine q_callV1 zm_RX5_143 dX5_readUnit_60 hr.1 (by decide) rfl (Nat.le_of_ble_eq_true rfl) (Nat.le_of_ble_eq_true rfl) (Nat.le_of_ble_eq_true rfl) (Nat.le_of_ble_eq_true rfl) (Nat.le_of_ble_eq_true rfl) (s_X5_readTruth_2 (lm := lm) (u := u) G hr kw ko htpd td (by omega) (by rw [od.2.2 10 (by decide)]; exact hol) (by rw [od.2.2 9 (by decide)]; exact hu) (by omega) (fun rs vs gs os as bs => ?_))
      have as2 : (trU B n (unP B n (if lm = 5 then 8 else 6) 2) (nxP B n p)).1 = 0 → rs.toInt = 1 ∧ tkR ca B n gs vs A (trU B n (unP B n (if lm = 5 then 8 else 6) 2) (nxP B n p)).2.1 ∧ okR gd gs A u (trU B n (unP B n (if lm = 5 then 8 else 6) 2) (nxP B n p)).2.2 := as
      have bs2 : (trU B n (unP B n (if lm = 5 then 8 else 6) 2) (nxP B n p)).1 ≠ 0 → rs.toInt = 0 ∧ flR gs A (trU B n (unP B n (if lm = 5 then 8 else 6) 2) (nxP B n p)).1 (trU B n (unP B n (if lm = 5 then 8 else 6) 2) (nxP B n p)).2.1 := bs
      have ofs : frM A [8] [2, 3, 4, 5, 9, 11, 12] f gs := frM_tr (frM_su od (by decide) (by decide)) os
      obtain ⟨cs, ls⟩ := bs2 hq
      refine t_ifeq (t := 79) dX5_readUnit_63 (by decide) (fun h63 => ?_) (fun h63 => False.elim (by omega))
      refine n_iconst dX5_readUnit_79 (by decide) (fun r79 e79 => ?_)
      refine m_zret dX5_readUnit_80 rfl (by omega) (Nat.le_of_ble_eq_true rfl) (Nat.le_of_ble_eq_true rfl) ?_
      exact hQ _ _ gs ofs (fun h_z => absurd h_z hq) (fun _ => ⟨e79, ls⟩)
  have hv0 : unP B n (if lm = 5 then 8 else 6) 3 p = cmP B n (smP B n (if lm = 5 then 8 else 6) 3) p := (if_neg hw).trans (if_neg hp)
  rw [hv0] at hQ
  by_cases hq : (smP B n (if lm = 5 then 8 else 6) 3 p).1 = 0
  · obtain ⟨y1, y2, y3, y4⟩ := (hsm p hpn).1 hq
    by_cases hop : opC B n (smP B n (if lm = 5 then 8 else 6) 3 p).2.1 = 0
    · have hv : cmP B n (smP B n (if lm = 5 then 8 else 6) 3) p = (baP B n (smP B n (if lm = 5 then 8 else 6) 3 p).2.1, (smP B n (if lm = 5 then 8 else 6) 3 p).2.1, []) := (if_neg (not_not_intro hq)).trans (if_pos hop)
      rw [hv] at hQ
      have hba := ba_bd (B := B) (n := n) (s := (smP B n (if lm = 5 then 8 else 6) 3 p).2.1)
      refine r_aloadR0 dX5_readUnit_0 ?_
      refine k_gets (ko.2.1 ("NOT", 8) (List.mem_of_getElem? (i := 4) rfl)) zg_RX5_182 dX5_readUnit_1 ?_
      refine q_callV1 zm_RX5_170 dX5_readUnit_4 hr.1 (by decide) rfl (Nat.le_of_ble_eq_true rfl) (Nat.le_of_ble_eq_true rfl) (Nat.le_of_ble_eq_true rfl) (Nat.le_of_ble_eq_true rfl) (Nat.le_of_ble_eq_true rfl) (s_X5_isWord (i := 8) G hr kw ko (by decide) htk (fun r4 e4_z => ?_))
      have e4b : r4.toInt = 0 := e4_z.elim (fun h_z => absurd h_z.2 hw) (fun h_z => h_z.1)
      refine t_ifeq (t := 39) dX5_readUnit_7 (by decide) (fun h7 => ?_) (fun h7 => False.elim (by omega))
      refine r_aloadR0 dX5_readUnit_39 ?_
      refine m_getV (x := (f A 4)) zf_RX5_25 rfl dX5_readUnit_40 hr.1 (rfl) ?_
      refine n_bipush dX5_readUnit_43 (by decide) (fun r43 e43 => ?_)
      refine t_icne (t := 81) dX5_readUnit_45 (by decide) (fun h45 => ?_) (fun h45 => False.elim (by omega))
      refine r_aloadR0 dX5_readUnit_81 ?_
      refine r_iload1 dX5_readUnit_82 ?_
      refine q_callV1 zm_RX5_146 dX5_readUnit_83 hr.1 (by decide) rfl (Nat.le_of_ble_eq_true rfl) (Nat.le_of_ble_eq_true rfl) (Nat.le_of_ble_eq_true rfl) (Nat.le_of_ble_eq_true rfl) (Nat.le_of_ble_eq_true rfl) (s_X5_readSum_3 (lm := lm) (u := u) G hr kw ko htp htk hx hol hu hup (fun r83 v83 g83 o83 a83 b83 => ?_))
      have a83b : (smP B n (if lm = 5 then 8 else 6) 3 p).1 = 0 → r83.toInt = 1 ∧ tkR ca B n g83 v83 A (smP B n (if lm = 5 then 8 else 6) 3 p).2.1 ∧ okR f g83 A u (smP B n (if lm = 5 then 8 else 6) 3 p).2.2 := a83
      have b83b : (smP B n (if lm = 5 then 8 else 6) 3 p).1 ≠ 0 → r83.toInt = 0 ∧ flR g83 A (smP B n (if lm = 5 then 8 else 6) 3 p).1 (smP B n (if lm = 5 then 8 else 6) 3 p).2.1 := b83
      obtain ⟨c83, t83, k83⟩ := a83b hq
      have htp83 := tpR_of htp ht o83 (by decide)
      refine t_ifne (t := 91) dX5_readUnit_86 (by decide) (fun h86 => ?_) (fun h86 => False.elim (by omega))
      refine r_aloadR0 dX5_readUnit_91 ?_
      refine q_callV0 zm_RX5_188 dX5_readUnit_92 hr.1 (by decide) rfl (Nat.le_of_ble_eq_true rfl) (Nat.le_of_ble_eq_true rfl) (Nat.le_of_ble_eq_true rfl) (Nat.le_of_ble_eq_true rfl) (Nat.le_of_ble_eq_true rfl) (s_X5_comparing (n := n) (B := B) (s := (smP B n (if lm = 5 then 8 else 6) 3 p).2.1) G hr t83 (fun r92 a92 b92 => ?_))
      have e92_z := a92 hop
      refine r_istore2 dX5_readUnit_95 rfl ?_
      refine r_iload2 dX5_readUnit_96 ?_
      refine n_iconst dX5_readUnit_97 (by decide) (fun r97 e97_z => ?_)
      refine t_icne (t := 106) dX5_readUnit_98 (by decide) (fun h98 => False.elim (by omega)) (fun h98 => ?_)
      refine r_aloadR0 dX5_readUnit_101 ?_
      refine q_callV0 zm_RX5_80 dX5_readUnit_102 hr.1 (by decide) rfl (Nat.le_of_ble_eq_true rfl) (Nat.le_of_ble_eq_true rfl) (Nat.le_of_ble_eq_true rfl) (Nat.le_of_ble_eq_true rfl) (Nat.le_of_ble_eq_true rfl) (s_X5_refuseToken G hr t83 (fun r102 g102 e102_z o102 l102 => ?_))
      refine m_zret dX5_readUnit_105 rfl (by omega) (Nat.le_of_ble_eq_true rfl) (Nat.le_of_ble_eq_true rfl) ?_
      exact hQ _ _ g102 (frM_tr o83 (frM_su o102 (by decide) (by decide))) (fun h_z => absurd h_z hba.1) (fun _ => ⟨e102_z, l102⟩)
    · have hcb := (hop_C (B := B) (n := n) _ hop)
      have hnx := nxP_gt (B := B) hcb.1
      have hge : 2000 ≤ opC B n (smP B n (if lm = 5 then 8 else 6) 3 p).2.1 := by rcases hcb.2 with ⟨_, _, h_z⟩ | ⟨_, _, h_z⟩ | ⟨_, _, h_z⟩ <;> omega
      by_cases hq2 : (smP B n (if lm = 5 then 8 else 6) 3 (nxP B n (smP B n (if lm = 5 then 8 else 6) 3 p).2.1)).1 = 0
      · obtain ⟨z1, z2, z3, z4⟩ := (hsm _ hnx.2).1 hq2
        have hv : cmP B n (smP B n (if lm = 5 then 8 else 6) 3) p = (0, (smP B n (if lm = 5 then 8 else 6) 3 (nxP B n (smP B n (if lm = 5 then 8 else 6) 3 p).2.1)).2.1, (smP B n (if lm = 5 then 8 else 6) 3 p).2.2 ++ (smP B n (if lm = 5 then 8 else 6) 3 (nxP B n (smP B n (if lm = 5 then 8 else 6) 3 p).2.1)).2.2 ++ [opC B n (smP B n (if lm = 5 then 8 else 6) 3 p).2.1]) := (if_neg (not_not_intro hq)).trans ((if_neg hop).trans (if_neg (not_not_intro hq2)))
        rw [hv] at hQ
        refine r_aloadR0 dX5_readUnit_0 ?_
        refine k_gets (ko.2.1 ("NOT", 8) (List.mem_of_getElem? (i := 4) rfl)) zg_RX5_182 dX5_readUnit_1 ?_
        refine q_callV1 zm_RX5_170 dX5_readUnit_4 hr.1 (by decide) rfl (Nat.le_of_ble_eq_true rfl) (Nat.le_of_ble_eq_true rfl) (Nat.le_of_ble_eq_true rfl) (Nat.le_of_ble_eq_true rfl) (Nat.le_of_ble_eq_true rfl) (s_X5_isWord (i := 8) G hr kw ko (by decide) htk (fun r4 e4_z => ?_))
        have e4b : r4.toInt = 0 := e4_z.elim (fun h_z => absurd h_z.2 hw) (fun h_z => h_z.1)
        refine t_ifeq (t := 39) dX5_readUnit_7 (by decide) (fun h7 => ?_) (fun h7 => False.elim (by omega))
        refine r_aloadR0 dX5_readUnit_39 ?_
        refine m_getV (x := (f A 4)) zf_RX5_25 rfl dX5_readUnit_40 hr.1 (rfl) ?_
        refine n_bipush dX5_readUnit_43 (by decide) (fun r43 e43 => ?_)
        refine t_icne (t := 81) dX5_readUnit_45 (by decide) (fun h45 => ?_) (fun h45 => False.elim (by omega))
        refine r_aloadR0 dX5_readUnit_81 ?_
        refine r_iload1 dX5_readUnit_82 ?_
        refine q_callV1 zm_RX5_146 dX5_readUnit_83 hr.1 (by decide) rfl (Nat.le_of_ble_eq_true rfl) (Nat.le_of_ble_eq_true rfl) (Nat.le_of_ble_eq_true rfl) (Nat.le_of_ble_eq_true rfl) (Nat.le_of_ble_eq_true rfl) (s_X5_readSum_3 (lm := lm) (u := u) G hr kw ko htp htk hx hol hu hup (fun r83 v83 g83 o83 a83 b83 => ?_))
        have a83b : (smP B n (if lm = 5 then 8 else 6) 3 p).1 = 0 → r83.toInt = 1 ∧ tkR ca B n g83 v83 A (smP B n (if lm = 5 then 8 else 6) 3 p).2.1 ∧ okR f g83 A u (smP B n (if lm = 5 then 8 else 6) 3 p).2.2 := a83
        have b83b : (smP B n (if lm = 5 then 8 else 6) 3 p).1 ≠ 0 → r83.toInt = 0 ∧ flR g83 A (smP B n (if lm = 5 then 8 else 6) 3 p).1 (smP B n (if lm = 5 then 8 else 6) 3 p).2.1 := b83
        obtain ⟨c83, t83, k83⟩ := a83b hq
        have htp83 := tpR_of htp ht o83 (by decide)
        refine t_ifne (t := 91) dX5_readUnit_86 (by decide) (fun h86 => ?_) (fun h86 => False.elim (by omega))
        refine r_aloadR0 dX5_readUnit_91 ?_
        refine q_callV0 zm_RX5_188 dX5_readUnit_92 hr.1 (by decide) rfl (Nat.le_of_ble_eq_true rfl) (Nat.le_of_ble_eq_true rfl) (Nat.le_of_ble_eq_true rfl) (Nat.le_of_ble_eq_true rfl) (Nat.le_of_ble_eq_true rfl) (s_X5_comparing (n := n) (B := B) (s := (smP B n (if lm = 5 then 8 else 6) 3 p).2.1) G hr t83 (fun r92 a92 b92 => ?_))
        have e92_z := b92 hop
        refine r_istore2 dX5_readUnit_95 rfl ?_
        refine r_iload2 dX5_readUnit_96 ?_
        refine n_iconst dX5_readUnit_97 (by decide) (fun r97 e97_z => ?_)
        refine t_icne (t := 106) dX5_readUnit_98 (by decide) (fun h98 => ?_) (fun h98 => False.elim (by omega))
        refine r_aloadR0 dX5_readUnit_106 ?_
        refine q_callV0 zm_RX5_73 dX5_readUnit_107 hr.1 (by decide) rfl (Nat.le_of_ble_eq_true rfl) (Nat.le_of_ble_eq_true rfl) (Nat.le_of_ble_eq_true rfl) (Nat.le_of_ble_eq_true rfl) (Nat.le_of_ble_eq_true rfl) (s_X5_next (p := teP B n (smP B n (if lm = 5 then 8 else 6) 3 p).2.1) G hr kw ko htp83 t83.2.1 (teP_le t83.1) t83.2.2.2.2.2.2 (fun v107 g107 o107 t107 => ?_))
        have t107 : tkR ca B n g107 v107 A (nxP B n (smP B n (if lm = 5 then 8 else 6) 3 p).2.1) := t107
        have htpn := tpR_of htp83 ht o107 (by decide)
        have wn : g107 (A + 8) = g83 (A + 8) := o107.2.1 8 (by decide) (by decide) (by decide)
        refine r_aloadR0 dX5_readUnit_110 ?_
        refine r_iload1 dX5_readUnit_111 ?_
        refine q_callV1 zm_RX5_146 dX5_readUnit_112 hr.1 (by decide) rfl (Nat.le_of_ble_eq_true rfl) (Nat.le_of_ble_eq_true rfl) (Nat.le_of_ble_eq_true rfl) (Nat.le_of_ble_eq_true rfl) (Nat.le_of_ble_eq_true rfl) (s_X5_readSum_3 (lm := lm) (u := u + (smP B n (if lm = 5 then 8 else 6) 3 p).2.2.length) G hr kw ko htpn t107 hx (by rw [o107.2.2 10 (by decide), o83.2.2 10 (by decide)]; exact hol) (by rw [o107.2.2 9 (by decide)]; exact k83.1) (by omega) (fun rs vs gs os as bs => ?_))
        have as2 : (smP B n (if lm = 5 then 8 else 6) 3 (nxP B n (smP B n (if lm = 5 then 8 else 6) 3 p).2.1)).1 = 0 → rs.toInt = 1 ∧ tkR ca B n gs vs A (smP B n (if lm = 5 then 8 else 6) 3 (nxP B n (smP B n (if lm = 5 then 8 else 6) 3 p).2.1)).2.1 ∧ okR g107 gs A (u + (smP B n (if lm = 5 then 8 else 6) 3 p).2.2.length) (smP B n (if lm = 5 then 8 else 6) 3 (nxP B n (smP B n (if lm = 5 then 8 else 6) 3 p).2.1)).2.2 := as
        have bs2 : (smP B n (if lm = 5 then 8 else 6) 3 (nxP B n (smP B n (if lm = 5 then 8 else 6) 3 p).2.1)).1 ≠ 0 → rs.toInt = 0 ∧ flR gs A (smP B n (if lm = 5 then 8 else 6) 3 (nxP B n (smP B n (if lm = 5 then 8 else 6) 3 p).2.1)).1 (smP B n (if lm = 5 then 8 else 6) 3 (nxP B n (smP B n (if lm = 5 then 8 else 6) 3 p).2.1)).2.1 := bs
        have ofs : frM A [8] [2, 3, 4, 5, 9, 11, 12] f gs := frM_tr o83 (frM_tr (frM_su o107 (by decide) (by decide)) os)
        obtain ⟨cs, ts, ks⟩ := as2 hq2
        refine t_ifne (t := 120) dX5_readUnit_115 (by decide) (fun h115 => ?_) (fun h115 => False.elim (by omega))
        refine r_aloadR0 dX5_readUnit_120 ?_
        refine r_iload2 dX5_readUnit_121 ?_
        refine q_callV1 zm_RX5_173 dX5_readUnit_122 hr.1 (by decide) rfl (Nat.le_of_ble_eq_true rfl) (Nat.le_of_ble_eq_true rfl) (Nat.le_of_ble_eq_true rfl) (Nat.le_of_ble_eq_true rfl) (Nat.le_of_ble_eq_true rfl) (s_X5_emit (u := u + (smP B n (if lm = 5 then 8 else 6) 3 p).2.2.length + (smP B n (if lm = 5 then 8 else 6) 3 (nxP B n (smP B n (if lm = 5 then 8 else 6) 3 p).2.1)).2.2.length) G hr ks.1 (by omega) (fun g122 o122 a122 b122 c122 => ?_))
        refine n_iconst dX5_readUnit_125 (by decide) (fun r125 e125_z => ?_)
        refine m_zret dX5_readUnit_126 rfl (by omega) (Nat.le_of_ble_eq_true rfl) (Nat.le_of_ble_eq_true rfl) ?_
        refine hQ _ _ g122 (frM_tr ofs (frM_su o122 (by decide) (by decide))) (fun _ => ⟨e125_z, tkR_of ts o122 (by decide) (by decide) (by decide) (by decide), okR_ap (okR_ap k83 (okR_cg ks wn rfl rfl)) ?_⟩) (fun h_z => absurd rfl h_z)
        rw [List.length_append, ← Nat.add_assoc]
        exact okR_one a122 b122 c122 e92_z
      · have hv : cmP B n (smP B n (if lm = 5 then 8 else 6) 3) p = (smP B n (if lm = 5 then 8 else 6) 3 (nxP B n (smP B n (if lm = 5 then 8 else 6) 3 p).2.1)) := (if_neg (not_not_intro hq)).trans ((if_neg hop).trans (if_pos hq2))
        rw [hv] at hQ
        refine r_aloadR0 dX5_readUnit_0 ?_
        refine k_gets (ko.2.1 ("NOT", 8) (List.mem_of_getElem? (i := 4) rfl)) zg_RX5_182 dX5_readUnit_1 ?_
        refine q_callV1 zm_RX5_170 dX5_readUnit_4 hr.1 (by decide) rfl (Nat.le_of_ble_eq_true rfl) (Nat.le_of_ble_eq_true rfl) (Nat.le_of_ble_eq_true rfl) (Nat.le_of_ble_eq_true rfl) (Nat.le_of_ble_eq_true rfl) (s_X5_isWord (i := 8) G hr kw ko (by decide) htk (fun r4 e4_z => ?_))
        have e4b : r4.toInt = 0 := e4_z.elim (fun h_z => absurd h_z.2 hw) (fun h_z => h_z.1)
        refine t_ifeq (t := 39) dX5_readUnit_7 (by decide) (fun h7 => ?_) (fun h7 => False.elim (by omega))
        refine r_aloadR0 dX5_readUnit_39 ?_
        refine m_getV (x := (f A 4)) zf_RX5_25 rfl dX5_readUnit_40 hr.1 (rfl) ?_
        refine n_bipush dX5_readUnit_43 (by decide) (fun r43 e43 => ?_)
        refine t_icne (t := 81) dX5_readUnit_45 (by decide) (fun h45 => ?_) (fun h45 => False.elim (by omega))
        refine r_aloadR0 dX5_readUnit_81 ?_
        refine r_iload1 dX5_readUnit_82 ?_
        refine q_callV1 zm_RX5_146 dX5_readUnit_83 hr.1 (by decide) rfl (Nat.le_of_ble_eq_true rfl) (Nat.le_of_ble_eq_true rfl) (Nat.le_of_ble_eq_true rfl) (Nat.le_of_ble_eq_true rfl) (Nat.le_of_ble_eq_true rfl) (s_X5_readSum_3 (lm := lm) (u := u) G hr kw ko htp htk hx hol hu hup (fun r83 v83 g83 o83 a83 b83 => ?_))
        have a83b : (smP B n (if lm = 5 then 8 else 6) 3 p).1 = 0 → r83.toInt = 1 ∧ tkR ca B n g83 v83 A (smP B n (if lm = 5 then 8 else 6) 3 p).2.1 ∧ okR f g83 A u (smP B n (if lm = 5 then 8 else 6) 3 p).2.2 := a83
        have b83b : (smP B n (if lm = 5 then 8 else 6) 3 p).1 ≠ 0 → r83.toInt = 0 ∧ flR g83 A (smP B n (if lm = 5 then 8 else 6) 3 p).1 (smP B n (if lm = 5 then 8 else 6) 3 p).2.1 := b83
        obtain ⟨c83, t83, k83⟩ := a83b hq
        have htp83 := tpR_of htp ht o83 (by decide)
        refine t_ifne (t := 91) dX5_readUnit_86 (by decide) (fun h86 => ?_) (fun h86 => False.elim (by omega))
        refine r_aloadR0 dX5_readUnit_91 ?_
        refine q_callV0 zm_RX5_188 dX5_readUnit_92 hr.1 (by decide) rfl (Nat.le_of_ble_eq_true rfl) (Nat.le_of_ble_eq_true rfl) (Nat.le_of_ble_eq_true rfl) (Nat.le_of_ble_eq_true rfl) (Nat.le_of_ble_eq_true rfl) (s_X5_comparing (n := n) (B := B) (s := (smP B n (if lm = 5 then 8 else 6) 3 p).2.1) G hr t83 (fun r92 a92 b92 => ?_))
        have e92_z := b92 hop
        refine r_istore2 dX5_readUnit_95 rfl ?_
        refine r_iload2 dX5_readUnit_96 ?_
        refine n_iconst dX5_readUnit_97 (by decide) (fun r97 e97_z => ?_)
        refine t_icne (t := 106) dX5_readUnit_98 (by decide) (fun h98 => ?_) (fun h98 => False.elim (by omega))
        refine r_aloadR0 dX5_readUnit_106 ?_
        refine q_callV0 zm_RX5_73 dX5_readUnit_107 hr.1 (by decide) rfl (Nat.le_of_ble_eq_true rfl) (Nat.le_of_ble_eq_true rfl) (Nat.le_of_ble_eq_true rfl) (Nat.le_of_ble_eq_true rfl) (Nat.le_of_ble_eq_true rfl) (s_X5_next (p := teP B n (smP B n (if lm = 5 then 8 else 6) 3 p).2.1) G hr kw ko htp83 t83.2.1 (teP_le t83.1) t83.2.2.2.2.2.2 (fun v107 g107 o107 t107 => ?_))
        have t107 : tkR ca B n g107 v107 A (nxP B n (smP B n (if lm = 5 then 8 else 6) 3 p).2.1) := t107
        have htpn := tpR_of htp83 ht o107 (by decide)
        have wn : g107 (A + 8) = g83 (A + 8) := o107.2.1 8 (by decide) (by decide) (by decide)
        refine r_aloadR0 dX5_readUnit_110 ?_
        refine r_iload1 dX5_readUnit_111 ?_
        refine q_callV1 zm_RX5_146 dX5_readUnit_112 hr.1 (by decide) rfl (Nat.le_of_ble_eq_true rfl) (Nat.le_of_ble_eq_true rfl) (Nat.le_of_ble_eq_true rfl) (Nat.le_of_ble_eq_true rfl) (Nat.le_of_ble_eq_true rfl) (s_X5_readSum_3 (lm := lm) (u := u + (smP B n (if lm = 5 then 8 else 6) 3 p).2.2.length) G hr kw ko htpn t107 hx (by rw [o107.2.2 10 (by decide), o83.2.2 10 (by decide)]; exact hol) (by rw [o107.2.2 9 (by decide)]; exact k83.1) (by omega) (fun rs vs gs os as bs => ?_))
        have as2 : (smP B n (if lm = 5 then 8 else 6) 3 (nxP B n (smP B n (if lm = 5 then 8 else 6) 3 p).2.1)).1 = 0 → rs.toInt = 1 ∧ tkR ca B n gs vs A (smP B n (if lm = 5 then 8 else 6) 3 (nxP B n (smP B n (if lm = 5 then 8 else 6) 3 p).2.1)).2.1 ∧ okR g107 gs A (u + (smP B n (if lm = 5 then 8 else 6) 3 p).2.2.length) (smP B n (if lm = 5 then 8 else 6) 3 (nxP B n (smP B n (if lm = 5 then 8 else 6) 3 p).2.1)).2.2 := as
        have bs2 : (smP B n (if lm = 5 then 8 else 6) 3 (nxP B n (smP B n (if lm = 5 then 8 else 6) 3 p).2.1)).1 ≠ 0 → rs.toInt = 0 ∧ flR gs A (smP B n (if lm = 5 then 8 else 6) 3 (nxP B n (smP B n (if lm = 5 then 8 else 6) 3 p).2.1)).1 (smP B n (if lm = 5 then 8 else 6) 3 (nxP B n (smP B n (if lm = 5 then 8 else 6) 3 p).2.1)).2.1 := bs
        have ofs : frM A [8] [2, 3, 4, 5, 9, 11, 12] f gs := frM_tr o83 (frM_tr (frM_su o107 (by decide) (by decide)) os)
        obtain ⟨cs, ls⟩ := bs2 hq2
        refine t_ifne (t := 120) dX5_readUnit_115 (by decide) (fun h115 => False.elim (by omega)) (fun h115 => ?_)
        refine n_iconst dX5_readUnit_118 (by decide) (fun r118 e118_z => ?_)
        refine m_zret dX5_readUnit_119 rfl (by omega) (Nat.le_of_ble_eq_true rfl) (Nat.le_of_ble_eq_true rfl) ?_
        exact hQ _ _ gs ofs (fun h_z => absurd h_z hq2) (fun _ => ⟨e118_z, ls⟩)
  · have hv : cmP B n (smP B n (if lm = 5 then 8 else 6) 3) p = (smP B n (if lm = 5 then 8 else 6) 3 p) := if_pos hq
    rw [hv] at hQ
    refine r_aloadR0 dX5_readUnit_0 ?_
    refine k_gets (ko.2.1 ("NOT", 8) (List.mem_of_getElem? (i := 4) rfl)) zg_RX5_182 dX5_readUnit_1 ?_
    refine q_callV1 zm_RX5_170 dX5_readUnit_4 hr.1 (by decide) rfl (Nat.le_of_ble_eq_true rfl) (Nat.le_of_ble_eq_true rfl) (Nat.le_of_ble_eq_true rfl) (Nat.le_of_ble_eq_true rfl) (Nat.le_of_ble_eq_true rfl) (s_X5_isWord (i := 8) G hr kw ko (by decide) htk (fun r4 e4_z => ?_))
    have e4b : r4.toInt = 0 := e4_z.elim (fun h_z => absurd h_z.2 hw) (fun h_z => h_z.1)
    refine t_ifeq (t := 39) dX5_readUnit_7 (by decide) (fun h7 => ?_) (fun h7 => False.elim (by omega))
    refine r_aloadR0 dX5_readUnit_39 ?_
    refine m_getV (x := (f A 4)) zf_RX5_25 rfl dX5_readUnit_40 hr.1 (rfl) ?_
    refine n_bipush dX5_readUnit_43 (by decide) (fun r43 e43 => ?_)
    refine t_icne (t := 81) dX5_readUnit_45 (by decide) (fun h45 => ?_) (fun h45 => False.elim (by omega))
    refine r_aloadR0 dX5_readUnit_81 ?_
    refine r_iload1 dX5_readUnit_82 ?_
    refine q_callV1 zm_RX5_146 dX5_readUnit_83 hr.1 (by decide) rfl (Nat.le_of_ble_eq_true rfl) (Nat.le_of_ble_eq_true rfl) (Nat.le_of_ble_eq_true rfl) (Nat.le_of_ble_eq_true rfl) (Nat.le_of_ble_eq_true rfl) (s_X5_readSum_3 (lm := lm) (u := u) G hr kw ko htp htk hx hol hu hup (fun r83 v83 g83 o83 a83 b83 => ?_))
    have a83b : (smP B n (if lm = 5 then 8 else 6) 3 p).1 = 0 → r83.toInt = 1 ∧ tkR ca B n g83 v83 A (smP B n (if lm = 5 then 8 else 6) 3 p).2.1 ∧ okR f g83 A u (smP B n (if lm = 5 then 8 else 6) 3 p).2.2 := a83
    have b83b : (smP B n (if lm = 5 then 8 else 6) 3 p).1 ≠ 0 → r83.toInt = 0 ∧ flR g83 A (smP B n (if lm = 5 then 8 else 6) 3 p).1 (smP B n (if lm = 5 then 8 else 6) 3 p).2.1 := b83
    obtain ⟨c83, l83⟩ := b83b hq
    refine t_ifne (t := 91) dX5_readUnit_86 (by decide) (fun h86 => False.elim (by omega)) (fun h86 => ?_)
    refine n_iconst dX5_readUnit_89 (by decide) (fun r89 e89 => ?_)
    refine m_zret dX5_readUnit_90 rfl (by omega) (Nat.le_of_ble_eq_true rfl) (Nat.le_of_ble_eq_true rfl) ?_
    exact hQ _ _ g83 o83 (fun h_z => absurd h_z hq) (fun _ => ⟨e89, l83⟩)
set_option maxHeartbeats 4000000 in
set_option maxRecDepth 100000 in
theorem s_X5_readBoth_3 {g : zGT} {w : zW} {f : Nat → Nat → Int32} {j : Nat → Nat → Int64} {A tq nq : Nat} {v : Option Nat} {B : Nat → Nat} {n : Nat} {ca wa wv : Nat → Nat} {kq ta sm gq gv : Nat} {p lm u : Nat} {x : Int32} {Q : Option Value → zW → Prop} {QX : String → zW → Prop} (G : zGok g) (hr : shRd w A tq nq) (kw : kWd g wa wv kq) (ko : kWo g ca wa wv ta sm gq gv) (htp : tpR B n f A tq) (htk : tkR ca B n f v A p) (hx : x.toInt = 3) (hol : (f A 10).toInt = if lm = 5 then 1 else 0) (hu : (f A 9).toInt = (u : Nat)) (hup : u ≤ p) (hQ : ∀ (b : Int32) v2 f2_z, frM A [8] [2, 3, 4, 5, 9, 11, 12] f f2_z → ((chP B n (unP B n (if lm = 5 then 8 else 6) 3) (opA B n) p).1 = 0 → b.toInt = 1 ∧ tkR ca B n f2_z v2 A (chP B n (unP B n (if lm = 5 then 8 else 6) 3) (opA B n) p).2.1 ∧ okR f f2_z A u (chP B n (unP B n (if lm = 5 then 8 else 6) 3) (opA B n) p).2.2) → ((chP B n (unP B n (if lm = 5 then 8 else 6) 3) (opA B n) p).1 ≠ 0 → b.toInt = 0 ∧ flR f2_z A (chP B n (unP B n (if lm = 5 then 8 else 6) 3) (opA B n) p).1 (chP B n (unP B n (if lm = 5 then 8 else 6) 3) (opA B n) p).2.1) → Q (some (.int b)) (zM (wW w A v2) f2_z j)) : zC g 53 yX5_readBoth cX5_readBoth 3 (some .boolean) [.ref A, .int x] (zM (wW w A v) f j) (0, 0) Q QX := by
  refine zC_of G (by decide +kernel) (Nat.le_of_ble_eq_true rfl) ?_
  have ht := hr.2.2.2.2.2.2
  have h4 := htk.2.2.2.1
  have hpn := htk.1
  have h900 := htp.2.1
  have hgd : ∀ s, s ≤ n → gdP n true (if lm = 5 then 8 else 6) (4 + 2 * 3) s ((unP B n (if lm = 5 then 8 else 6) 3) s) := gd_un (by split <;> decide) 3
  have lp : ∀ (mz : Nat) (uu : Int32) (i : Nat) (k : Nat) (ps : Nat) (c : List Nat) (f2_z : Nat → Nat → Int32) (vv : Option Nat), uu.toInt = (i : Nat) → frM A [8] [2, 3, 4, 5, 9, 11, 12] f f2_z → tkR ca B n f2_z vv A ps → okR f f2_z A u c → p + i < ps → ps ≤ n → c.length + p ≤ ps → n ≤ k + ps → lpP B n (unP B n (if lm = 5 then 8 else 6) 3) (opA B n) k (0, ps, c) = chP B n (unP B n (if lm = 5 then 8 else 6) 3) (opA B n) p → k < mz → zR (zV g 53 yX5_readBoth 3 (some .boolean) (0, 0) Q QX) cX5_readBoth yX5_readBoth.cls 12 [some (.ref A), some (.int x), some (.int uu)] [] (zM (wW w A vv) f2_z j) (0, 0) := by
    intro mz
    induction mz with
    | zero =>
      intro uu i k ps c f2_z vv hui ofr htk2 hok hpi hps hcl hnk hR hmz
      exact absurd hmz (Nat.not_lt_zero _)
    | succ mz ih =>
      intro uu i k ps c f2_z vv hui ofr htk2 hok hpi hps hcl hnk hR hmz
      have htp2 := tpR_of htp ht ofr (by decide)
      have h1 := htp2.1
      have htk4 := htk2.2.2.2.1
      have hi9 : i < n := by omega
      by_cases hc_z : isWd B n ps 7 = true
      · have hop : (opA B n) ps = 2001 := if_pos hc_z
        have hop0 : (opA B n) ps ≠ 0 := by rw [hop]; decide
        have hln := tk_lt (B := B) (n := n) (s := ps) (by rw [(isWd_tk hc_z).1]; decide)
        obtain ⟨k2_z, rfl⟩ : ∃ k2_z, k = k2_z + 1 := ⟨k - 1, by omega⟩
        have hnx := nxP_gt (B := B) hln
        have gq := hgd _ hnx.2
        by_cases hq : ((unP B n (if lm = 5 then 8 else 6) 3) (nxP B n ps)).1 = 0
        · obtain ⟨y1, y2, y3, y4⟩ := gq.1 hq
          refine r_iload2 dX5_readBoth_12 ?_
          refine r_aloadR0 dX5_readBoth_13 ?_
          refine m_getV (x := (f2_z A 1)) zf_RX5_15 rfl dX5_readBoth_14 hr.1 (rfl) ?_
          refine t_icge (t := 57) dX5_readBoth_17 (by decide) (fun h17 => False.elim (by omega)) (fun h17 => ?_)
          refine r_aloadR0 dX5_readBoth_20 ?_
          refine k_gets (ko.2.1 ("AND", 7) (List.mem_of_getElem? (i := 7) rfl)) zg_RX5_179 dX5_readBoth_21 ?_
          refine q_callV1 zm_RX5_170 dX5_readBoth_24 hr.1 (by decide) rfl (Nat.le_of_ble_eq_true rfl) (Nat.le_of_ble_eq_true rfl) (Nat.le_of_ble_eq_true rfl) (Nat.le_of_ble_eq_true rfl) (Nat.le_of_ble_eq_true rfl) (s_X5_isWord (i := 7) G hr kw ko (by decide) htk2 (fun r24 e24_z => ?_))
          have e24b : r24.toInt = 1 := e24_z.elim (fun h_z => h_z.1) (fun h_z => absurd hc_z h_z.2)
          refine t_ifeq (t := 57) dX5_readBoth_27 (by decide) (fun h27 => False.elim (by omega)) (fun h27 => ?_)
          refine r_aloadR0 dX5_readBoth_30 ?_
          refine q_callV0 zm_RX5_73 dX5_readBoth_31 hr.1 (by decide) rfl (Nat.le_of_ble_eq_true rfl) (Nat.le_of_ble_eq_true rfl) (Nat.le_of_ble_eq_true rfl) (Nat.le_of_ble_eq_true rfl) (Nat.le_of_ble_eq_true rfl) (s_X5_next (p := teP B n ps) G hr kw ko htp2 htk2.2.1 (teP_le htk2.1) htk2.2.2.2.2.2.2 (fun v31 g31 o31 t31 => ?_))
          have t31 : tkR ca B n g31 v31 A (nxP B n ps) := t31
          have htpn := tpR_of htp2 ht o31 (by decide)
          have wn : g31 (A + 8) = f2_z (A + 8) := o31.2.1 8 (by decide) (by decide) (by decide)
          refine r_aloadR0 dX5_readBoth_34 ?_
          refine r_iload1 dX5_readBoth_35 ?_
          refine q_callV1 zm_RX5_176 dX5_readBoth_36 hr.1 (by decide) rfl (Nat.le_of_ble_eq_true rfl) (Nat.le_of_ble_eq_true rfl) (Nat.le_of_ble_eq_true rfl) (Nat.le_of_ble_eq_true rfl) (Nat.le_of_ble_eq_true rfl) (s_X5_readUnit_3 (lm := lm) (u := u + c.length) G hr kw ko htpn t31 hx (by rw [o31.2.2 10 (by decide), ofr.2.2 10 (by decide)]; exact hol) (by rw [o31.2.2 9 (by decide)]; exact hok.1) (by omega) (fun rs vs gs os as bs => ?_))
          have as2 : ((unP B n (if lm = 5 then 8 else 6) 3) (nxP B n ps)).1 = 0 → rs.toInt = 1 ∧ tkR ca B n gs vs A ((unP B n (if lm = 5 then 8 else 6) 3) (nxP B n ps)).2.1 ∧ okR g31 gs A (u + c.length) ((unP B n (if lm = 5 then 8 else 6) 3) (nxP B n ps)).2.2 := as
          have bs2 : ((unP B n (if lm = 5 then 8 else 6) 3) (nxP B n ps)).1 ≠ 0 → rs.toInt = 0 ∧ flR gs A ((unP B n (if lm = 5 then 8 else 6) 3) (nxP B n ps)).1 ((unP B n (if lm = 5 then 8 else 6) 3) (nxP B n ps)).2.1 := bs
          have ofs : frM A [8] [2, 3, 4, 5, 9, 11, 12] f gs := frM_tr ofr (frM_tr (frM_su o31 (by decide) (by decide)) os)
          obtain ⟨cs, ts, ks⟩ := as2 hq
          refine t_ifne (t := 44) dX5_readBoth_39 (by decide) (fun h39 => ?_) (fun h39 => False.elim (by omega))
          refine r_aloadR0 dX5_readBoth_44 ?_
          refine n_sipush dX5_readBoth_45 (by decide) (fun r45 e45 => ?_)
          refine q_callV1 zm_RX5_173 dX5_readBoth_48 hr.1 (by decide) rfl (Nat.le_of_ble_eq_true rfl) (Nat.le_of_ble_eq_true rfl) (Nat.le_of_ble_eq_true rfl) (Nat.le_of_ble_eq_true rfl) (Nat.le_of_ble_eq_true rfl) (s_X5_emit (u := u + c.length + ((unP B n (if lm = 5 then 8 else 6) 3) (nxP B n ps)).2.2.length) G hr ks.1 (by omega) (fun g48 o48 a48 b48 c48 => ?_))
          refine n_iinc2 dX5_readBoth_51 (by decide) rfl (by omega) (fun r51 e51 => ?_)
          refine r_goto (t := 12) dX5_readBoth_54 (by decide) ?_
          refine ih _ (i + 1) k2_z ((unP B n (if lm = 5 then 8 else 6) 3) (nxP B n ps)).2.1 (c ++ ((unP B n (if lm = 5 then 8 else 6) 3) (nxP B n ps)).2.2 ++ [(opA B n) ps]) g48 _ (by omega) (frM_tr ofs (frM_su o48 (by decide) (by decide))) (tkR_of ts o48 (by decide) (by decide) (by decide) (by decide)) (okR_ap (okR_ap hok (okR_cg ks wn rfl rfl)) ?_) (by omega) y2 ?_ (by omega) ?_ (by omega)
          · rw [List.length_append, ← Nat.add_assoc, hop]
            exact okR_one a48 b48 c48 (by omega)
          · rw [List.length_append, List.length_append, List.length_singleton]
            omega
          · exact (lpP_on (r := (0, ps, c)) rfl hop0 hq).symm.trans hR
        · have hv : ((unP B n (if lm = 5 then 8 else 6) 3) (nxP B n ps)) = chP B n (unP B n (if lm = 5 then 8 else 6) 3) (opA B n) p := (lpP_sub (k := k2_z) (r := (0, ps, c)) rfl hop0 hq).symm.trans hR
          refine r_iload2 dX5_readBoth_12 ?_
          refine r_aloadR0 dX5_readBoth_13 ?_
          refine m_getV (x := (f2_z A 1)) zf_RX5_15 rfl dX5_readBoth_14 hr.1 (rfl) ?_
          refine t_icge (t := 57) dX5_readBoth_17 (by decide) (fun h17 => False.elim (by omega)) (fun h17 => ?_)
          refine r_aloadR0 dX5_readBoth_20 ?_
          refine k_gets (ko.2.1 ("AND", 7) (List.mem_of_getElem? (i := 7) rfl)) zg_RX5_179 dX5_readBoth_21 ?_
          refine q_callV1 zm_RX5_170 dX5_readBoth_24 hr.1 (by decide) rfl (Nat.le_of_ble_eq_true rfl) (Nat.le_of_ble_eq_true rfl) (Nat.le_of_ble_eq_true rfl) (Nat.le_of_ble_eq_true rfl) (Nat.le_of_ble_eq_true rfl) (s_X5_isWord (i := 7) G hr kw ko (by decide) htk2 (fun r24 e24_z => ?_))
          have e24b : r24.toInt = 1 := e24_z.elim (fun h_z => h_z.1) (fun h_z => absurd hc_z h_z.2)
          refine t_ifeq (t := 57) dX5_readBoth_27 (by decide) (fun h27 => False.elim (by omega)) (fun h27 => ?_)
          refine r_aloadR0 dX5_readBoth_30 ?_
          refine q_callV0 zm_RX5_73 dX5_readBoth_31 hr.1 (by decide) rfl (Nat.le_of_ble_eq_true rfl) (Nat.le_of_ble_eq_true rfl) (Nat.le_of_ble_eq_true rfl) (Nat.le_of_ble_eq_true rfl) (Nat.le_of_ble_eq_true rfl) (s_X5_next (p := teP B n ps) G hr kw ko htp2 htk2.2.1 (teP_le htk2.1) htk2.2.2.2.2.2.2 (fun v31 g31 o31 t31 => ?_))
          have t31 : tkR ca B n g31 v31 A (nxP B n ps) := t31
          have htpn := tpR_of htp2 ht o31 (by decide)
          have wn : g31 (A + 8) = f2_z (A + 8) := o31.2.1 8 (by decide) (by decide) (by decide)
          refine r_aloadR0 dX5_readBoth_34 ?_
          refine r_iload1 dX5_readBoth_35 ?_
          refine q_callV1 zm_RX5_176 dX5_readBoth_36 hr.1 (by decide) rfl (Nat.le_of_ble_eq_true rfl) (Nat.le_of_ble_eq_true rfl) (Nat.le_of_ble_eq_true rfl) (Nat.le_of_ble_eq_true rfl) (Nat.le_of_ble_eq_true rfl) (s_X5_readUnit_3 (lm := lm) (u := u + c.length) G hr kw ko htpn t31 hx (by rw [o31.2.2 10 (by decide), ofr.2.2 10 (by decide)]; exact hol) (by rw [o31.2.2 9 (by decide)]; exact hok.1) (by omega) (fun rs vs gs os as bs => ?_))
          have as2 : ((unP B n (if lm = 5 then 8 else 6) 3) (nxP B n ps)).1 = 0 → rs.toInt = 1 ∧ tkR ca B n gs vs A ((unP B n (if lm = 5 then 8 else 6) 3) (nxP B n ps)).2.1 ∧ okR g31 gs A (u + c.length) ((unP B n (if lm = 5 then 8 else 6) 3) (nxP B n ps)).2.2 := as
          have bs2 : ((unP B n (if lm = 5 then 8 else 6) 3) (nxP B n ps)).1 ≠ 0 → rs.toInt = 0 ∧ flR gs A ((unP B n (if lm = 5 then 8 else 6) 3) (nxP B n ps)).1 ((unP B n (if lm = 5 then 8 else 6) 3) (nxP B n ps)).2.1 := bs
          have ofs : frM A [8] [2, 3, 4, 5, 9, 11, 12] f gs := frM_tr ofr (frM_tr (frM_su o31 (by decide) (by decide)) os)
          obtain ⟨cs, ls⟩ := bs2 hq
          refine t_ifne (t := 44) dX5_readBoth_39 (by decide) (fun h39 => False.elim (by omega)) (fun h39 => ?_)
          refine n_iconst dX5_readBoth_42 (by decide) (fun r42 e42_z => ?_)
          refine m_zret dX5_readBoth_43 rfl (by omega) (Nat.le_of_ble_eq_true rfl) (Nat.le_of_ble_eq_true rfl) ?_
          rw [← hv] at hQ
          exact hQ _ _ gs ofs (fun h_z => absurd h_z hq) (fun _ => ⟨e42_z, ls⟩)
      have hop : (opA B n) ps = 0 := if_neg hc_z
      have hv := (lpP_end (B := B) (n := n) (k := k) (sub := (unP B n (if lm = 5 then 8 else 6) 3)) (r := (0, ps, c)) hop).symm.trans hR
      refine r_iload2 dX5_readBoth_12 ?_
      refine r_aloadR0 dX5_readBoth_13 ?_
      refine m_getV (x := (f2_z A 1)) zf_RX5_15 rfl dX5_readBoth_14 hr.1 (rfl) ?_
      refine t_icge (t := 57) dX5_readBoth_17 (by decide) (fun h17 => False.elim (by omega)) (fun h17 => ?_)
      refine r_aloadR0 dX5_readBoth_20 ?_
      refine k_gets (ko.2.1 ("AND", 7) (List.mem_of_getElem? (i := 7) rfl)) zg_RX5_179 dX5_readBoth_21 ?_
      refine q_callV1 zm_RX5_170 dX5_readBoth_24 hr.1 (by decide) rfl (Nat.le_of_ble_eq_true rfl) (Nat.le_of_ble_eq_true rfl) (Nat.le_of_ble_eq_true rfl) (Nat.le_of_ble_eq_true rfl) (Nat.le_of_ble_eq_true rfl) (s_X5_isWord (i := 7) G hr kw ko (by decide) htk2 (fun r24 e24_z => ?_))
      have e24b : r24.toInt = 0 := e24_z.elim (fun h_z => absurd h_z.2 hc_z) (fun h_z => h_z.1)
      refine t_ifeq (t := 57) dX5_readBoth_27 (by decide) (fun h27 => ?_) (fun h27 => False.elim (by omega))
      refine n_iconst dX5_readBoth_57 (by decide) (fun r57 e57 => ?_)
      refine m_zret dX5_readBoth_58 rfl (by omega) (Nat.le_of_ble_eq_true rfl) (Nat.le_of_ble_eq_true rfl) ?_
      rw [← hv] at hQ
      exact hQ _ _ f2_z ofr (fun _ => ⟨e57, htk2, hok⟩) (fun h_z => absurd rfl h_z)
  have gp := hgd p hpn
  by_cases hq : ((unP B n (if lm = 5 then 8 else 6) 3) p).1 = 0
  · obtain ⟨y1, y2, y3, y4⟩ := gp.1 hq
    have hz : ((unP B n (if lm = 5 then 8 else 6) 3) p) = (0, ((unP B n (if lm = 5 then 8 else 6) 3) p).2.1, ((unP B n (if lm = 5 then 8 else 6) 3) p).2.2) := Prod.ext hq rfl
    refine r_aloadR0 dX5_readBoth_0 ?_
    refine r_iload1 dX5_readBoth_1 ?_
    refine q_callV1 zm_RX5_176 dX5_readBoth_2 hr.1 (by decide) rfl (Nat.le_of_ble_eq_true rfl) (Nat.le_of_ble_eq_true rfl) (Nat.le_of_ble_eq_true rfl) (Nat.le_of_ble_eq_true rfl) (Nat.le_of_ble_eq_true rfl) (s_X5_readUnit_3 G hr kw ko htp htk hx hol hu hup (fun r2 v2 g2 o2 a2 b2 => ?_))
    have a2b : ((unP B n (if lm = 5 then 8 else 6) 3) p).1 = 0 → r2.toInt = 1 ∧ tkR ca B n g2 v2 A ((unP B n (if lm = 5 then 8 else 6) 3) p).2.1 ∧ okR f g2 A u ((unP B n (if lm = 5 then 8 else 6) 3) p).2.2 := a2
    have b2b : ((unP B n (if lm = 5 then 8 else 6) 3) p).1 ≠ 0 → r2.toInt = 0 ∧ flR g2 A ((unP B n (if lm = 5 then 8 else 6) 3) p).1 ((unP B n (if lm = 5 then 8 else 6) 3) p).2.1 := b2
    obtain ⟨c2_z, t2, k2_z⟩ := a2b hq
    refine t_ifne (t := 10) dX5_readBoth_5 (by decide) (fun h5 => ?_) (fun h5 => False.elim (by omega))
    refine n_iconst dX5_readBoth_10 (by decide) (fun r10 e10_z => ?_)
    refine r_istore2 dX5_readBoth_11 rfl ?_
    exact lp (n + 1) _ 0 n ((unP B n (if lm = 5 then 8 else 6) 3) p).2.1 ((unP B n (if lm = 5 then 8 else 6) 3) p).2.2 g2 _ (by omega) o2 t2 k2_z (by omega) y2 y3 (by omega) (by rw [← hz]; rfl) (Nat.lt_succ_self n)
  · have hv : chP B n (unP B n (if lm = 5 then 8 else 6) 3) (opA B n) p = ((unP B n (if lm = 5 then 8 else 6) 3) p) := lpP_bad hq
    rw [hv] at hQ
    refine r_aloadR0 dX5_readBoth_0 ?_
    refine r_iload1 dX5_readBoth_1 ?_
    refine q_callV1 zm_RX5_176 dX5_readBoth_2 hr.1 (by decide) rfl (Nat.le_of_ble_eq_true rfl) (Nat.le_of_ble_eq_true rfl) (Nat.le_of_ble_eq_true rfl) (Nat.le_of_ble_eq_true rfl) (Nat.le_of_ble_eq_true rfl) (s_X5_readUnit_3 G hr kw ko htp htk hx hol hu hup (fun r2 v2 g2 o2 a2 b2 => ?_))
    have a2b : ((unP B n (if lm = 5 then 8 else 6) 3) p).1 = 0 → r2.toInt = 1 ∧ tkR ca B n g2 v2 A ((unP B n (if lm = 5 then 8 else 6) 3) p).2.1 ∧ okR f g2 A u ((unP B n (if lm = 5 then 8 else 6) 3) p).2.2 := a2
    have b2b : ((unP B n (if lm = 5 then 8 else 6) 3) p).1 ≠ 0 → r2.toInt = 0 ∧ flR g2 A ((unP B n (if lm = 5 then 8 else 6) 3) p).1 ((unP B n (if lm = 5 then 8 else 6) 3) p).2.1 := b2
    obtain ⟨c2_z, l2⟩ := b2b hq
    refine t_ifne (t := 10) dX5_readBoth_5 (by decide) (fun h5 => False.elim (by omega)) (fun h5 => ?_)
    refine n_iconst dX5_readBoth_8 (by decide) (fun r8 e8 => ?_)
    refine m_zret dX5_readBoth_9 rfl (by omega) (Nat.le_of_ble_eq_true rfl) (Nat.le_of_ble_eq_true rfl) ?_
    exact hQ _ _ g2 o2 (fun h_z => absurd h_z hq) (fun _ => ⟨e8, l2⟩)
set_option maxHeartbeats 4000000 in
set_option maxRecDepth 100000 in
theorem s_X5_readTruth_3 {g : zGT} {w : zW} {f : Nat → Nat → Int32} {j : Nat → Nat → Int64} {A tq nq : Nat} {v : Option Nat} {B : Nat → Nat} {n : Nat} {ca wa wv : Nat → Nat} {kq ta sm gq gv : Nat} {p lm u : Nat} {x : Int32} {Q : Option Value → zW → Prop} {QX : String → zW → Prop} (G : zGok g) (hr : shRd w A tq nq) (kw : kWd g wa wv kq) (ko : kWo g ca wa wv ta sm gq gv) (htp : tpR B n f A tq) (htk : tkR ca B n f v A p) (hx : x.toInt = 3) (hol : (f A 10).toInt = if lm = 5 then 1 else 0) (hu : (f A 9).toInt = (u : Nat)) (hup : u ≤ p) (hQ : ∀ (b : Int32) v2 f2_z, frM A [8] [2, 3, 4, 5, 9, 11, 12] f f2_z → ((chP B n (chP B n (unP B n (if lm = 5 then 8 else 6) 3) (opA B n)) (opO B n) p).1 = 0 → b.toInt = 1 ∧ tkR ca B n f2_z v2 A (chP B n (chP B n (unP B n (if lm = 5 then 8 else 6) 3) (opA B n)) (opO B n) p).2.1 ∧ okR f f2_z A u (chP B n (chP B n (unP B n (if lm = 5 then 8 else 6) 3) (opA B n)) (opO B n) p).2.2) → ((chP B n (chP B n (unP B n (if lm = 5 then 8 else 6) 3) (opA B n)) (opO B n) p).1 ≠ 0 → b.toInt = 0 ∧ flR f2_z A (chP B n (chP B n (unP B n (if lm = 5 then 8 else 6) 3) (opA B n)) (opO B n) p).1 (chP B n (chP B n (unP B n (if lm = 5 then 8 else 6) 3) (opA B n)) (opO B n) p).2.1) → Q (some (.int b)) (zM (wW w A v2) f2_z j)) : zC g 54 yX5_readTruth cX5_readTruth 3 (some .boolean) [.ref A, .int x] (zM (wW w A v) f j) (0, 0) Q QX := by
  refine zC_of G (by decide +kernel) (Nat.le_of_ble_eq_true rfl) ?_
  have ht := hr.2.2.2.2.2.2
  have h4 := htk.2.2.2.1
  have hpn := htk.1
  have h900 := htp.2.1
  have hgd : ∀ s, s ≤ n → gdP n true (if lm = 5 then 8 else 6) (4 + 2 * 3 + 1) s ((chP B n (unP B n (if lm = 5 then 8 else 6) 3) (opA B n)) s) := fun s hs9 => gd_ch (gd_un (by split <;> decide) 3) hop_A hs9
  have lp : ∀ (mz : Nat) (uu : Int32) (i : Nat) (k : Nat) (ps : Nat) (c : List Nat) (f2_z : Nat → Nat → Int32) (vv : Option Nat), uu.toInt = (i : Nat) → frM A [8] [2, 3, 4, 5, 9, 11, 12] f f2_z → tkR ca B n f2_z vv A ps → okR f f2_z A u c → p + i < ps → ps ≤ n → c.length + p ≤ ps → n ≤ k + ps → lpP B n (chP B n (unP B n (if lm = 5 then 8 else 6) 3) (opA B n)) (opO B n) k (0, ps, c) = chP B n (chP B n (unP B n (if lm = 5 then 8 else 6) 3) (opA B n)) (opO B n) p → k < mz → zR (zV g 54 yX5_readTruth 3 (some .boolean) (0, 0) Q QX) cX5_readTruth yX5_readTruth.cls 12 [some (.ref A), some (.int x), some (.int uu)] [] (zM (wW w A vv) f2_z j) (0, 0) := by
    intro mz
    induction mz with
    | zero =>
      intro uu i k ps c f2_z vv hui ofr htk2 hok hpi hps hcl hnk hR hmz
      exact absurd hmz (Nat.not_lt_zero _)
    | succ mz ih =>
      intro uu i k ps c f2_z vv hui ofr htk2 hok hpi hps hcl hnk hR hmz
      have htp2 := tpR_of htp ht ofr (by decide)
      have h1 := htp2.1
      have htk4 := htk2.2.2.2.1
      have hi9 : i < n := by omega
      by_cases hc_z : isWd B n ps 6 = true
      · have hop : (opO B n) ps = 2002 := if_pos hc_z
        have hop0 : (opO B n) ps ≠ 0 := by rw [hop]; decide
        have hln := tk_lt (B := B) (n := n) (s := ps) (by rw [(isWd_tk hc_z).1]; decide)
        obtain ⟨k2_z, rfl⟩ : ∃ k2_z, k = k2_z + 1 := ⟨k - 1, by omega⟩
        have hnx := nxP_gt (B := B) hln
        have gq := hgd _ hnx.2
        by_cases hq : ((chP B n (unP B n (if lm = 5 then 8 else 6) 3) (opA B n)) (nxP B n ps)).1 = 0
        · obtain ⟨y1, y2, y3, y4⟩ := gq.1 hq
          refine r_iload2 dX5_readTruth_12 ?_
          refine r_aloadR0 dX5_readTruth_13 ?_
          refine m_getV (x := (f2_z A 1)) zf_RX5_15 rfl dX5_readTruth_14 hr.1 (rfl) ?_
          refine t_icge (t := 57) dX5_readTruth_17 (by decide) (fun h17 => False.elim (by omega)) (fun h17 => ?_)
          refine r_aloadR0 dX5_readTruth_20 ?_
          refine k_gets (ko.2.1 ("OR", 6) (List.mem_of_getElem? (i := 8) rfl)) zg_RX5_167 dX5_readTruth_21 ?_
          refine q_callV1 zm_RX5_170 dX5_readTruth_24 hr.1 (by decide) rfl (Nat.le_of_ble_eq_true rfl) (Nat.le_of_ble_eq_true rfl) (Nat.le_of_ble_eq_true rfl) (Nat.le_of_ble_eq_true rfl) (Nat.le_of_ble_eq_true rfl) (s_X5_isWord (i := 6) G hr kw ko (by decide) htk2 (fun r24 e24_z => ?_))
          have e24b : r24.toInt = 1 := e24_z.elim (fun h_z => h_z.1) (fun h_z => absurd hc_z h_z.2)
          refine t_ifeq (t := 57) dX5_readTruth_27 (by decide) (fun h27 => False.elim (by omega)) (fun h27 => ?_)
          refine r_aloadR0 dX5_readTruth_30 ?_
          refine q_callV0 zm_RX5_73 dX5_readTruth_31 hr.1 (by decide) rfl (Nat.le_of_ble_eq_true rfl) (Nat.le_of_ble_eq_true rfl) (Nat.le_of_ble_eq_true rfl) (Nat.le_of_ble_eq_true rfl) (Nat.le_of_ble_eq_true rfl) (s_X5_next (p := teP B n ps) G hr kw ko htp2 htk2.2.1 (teP_le htk2.1) htk2.2.2.2.2.2.2 (fun v31 g31 o31 t31 => ?_))
          have t31 : tkR ca B n g31 v31 A (nxP B n ps) := t31
          have htpn := tpR_of htp2 ht o31 (by decide)
          have wn : g31 (A + 8) = f2_z (A + 8) := o31.2.1 8 (by decide) (by decide) (by decide)
          refine r_aloadR0 dX5_readTruth_34 ?_
          refine r_iload1 dX5_readTruth_35 ?_
          refine q_callV1 zm_RX5_164 dX5_readTruth_36 hr.1 (by decide) rfl (Nat.le_of_ble_eq_true rfl) (Nat.le_of_ble_eq_true rfl) (Nat.le_of_ble_eq_true rfl) (Nat.le_of_ble_eq_true rfl) (Nat.le_of_ble_eq_true rfl) (s_X5_readBoth_3 (lm := lm) (u := u + c.length) G hr kw ko htpn t31 hx (by rw [o31.2.2 10 (by decide), ofr.2.2 10 (by decide)]; exact hol) (by rw [o31.2.2 9 (by decide)]; exact hok.1) (by omega) (fun rs vs gs os as bs => ?_))
          have as2 : ((chP B n (unP B n (if lm = 5 then 8 else 6) 3) (opA B n)) (nxP B n ps)).1 = 0 → rs.toInt = 1 ∧ tkR ca B n gs vs A ((chP B n (unP B n (if lm = 5 then 8 else 6) 3) (opA B n)) (nxP B n ps)).2.1 ∧ okR g31 gs A (u + c.length) ((chP B n (unP B n (if lm = 5 then 8 else 6) 3) (opA B n)) (nxP B n ps)).2.2 := as
          have bs2 : ((chP B n (unP B n (if lm = 5 then 8 else 6) 3) (opA B n)) (nxP B n ps)).1 ≠ 0 → rs.toInt = 0 ∧ flR gs A ((chP B n (unP B n (if lm = 5 then 8 else 6) 3) (opA B n)) (nxP B n ps)).1 ((chP B n (unP B n (if lm = 5 then 8 else 6) 3) (opA B n)) (nxP B n ps)).2.1 := bs
          have ofs : frM A [8] [2, 3, 4, 5, 9, 11, 12] f gs := frM_tr ofr (frM_tr (frM_su o31 (by decide) (by decide)) os)
          obtain ⟨cs, ts, ks⟩ := as2 hq
          refine t_ifne (t := 44) dX5_readTruth_39 (by decide) (fun h39 => ?_) (fun h39 => False.elim (by omega))
          refine r_aloadR0 dX5_readTruth_44 ?_
          refine n_sipush dX5_readTruth_45 (by decide) (fun r45 e45 => ?_)
          refine q_callV1 zm_RX5_173 dX5_readTruth_48 hr.1 (by decide) rfl (Nat.le_of_ble_eq_true rfl) (Nat.le_of_ble_eq_true rfl) (Nat.le_of_ble_eq_true rfl) (Nat.le_of_ble_eq_true rfl) (Nat.le_of_ble_eq_true rfl) (s_X5_emit (u := u + c.length + ((chP B n (unP B n (if lm = 5 then 8 else 6) 3) (opA B n)) (nxP B n ps)).2.2.length) G hr ks.1 (by omega) (fun g48 o48 a48 b48 c48 => ?_))
          refine n_iinc2 dX5_readTruth_51 (by decide) rfl (by omega) (fun r51 e51 => ?_)
          refine r_goto (t := 12) dX5_readTruth_54 (by decide) ?_
          refine ih _ (i + 1) k2_z ((chP B n (unP B n (if lm = 5 then 8 else 6) 3) (opA B n)) (nxP B n ps)).2.1 (c ++ ((chP B n (unP B n (if lm = 5 then 8 else 6) 3) (opA B n)) (nxP B n ps)).2.2 ++ [(opO B n) ps]) g48 _ (by omega) (frM_tr ofs (frM_su o48 (by decide) (by decide))) (tkR_of ts o48 (by decide) (by decide) (by decide) (by decide)) (okR_ap (okR_ap hok (okR_cg ks wn rfl rfl)) ?_) (by omega) y2 ?_ (by omega) ?_ (by omega)
          · rw [List.length_append, ← Nat.add_assoc, hop]
            exact okR_one a48 b48 c48 (by omega)
          · rw [List.length_append, List.length_append, List.length_singleton]
            omega
          · exact (lpP_on (r := (0, ps, c)) rfl hop0 hq).symm.trans hR
        · have hv : ((chP B n (unP B n (if lm = 5 then 8 else 6) 3) (opA B n)) (nxP B n ps)) = chP B n (chP B n (unP B n (if lm = 5 then 8 else 6) 3) (opA B n)) (opO B n) p := (lpP_sub (k := k2_z) (r := (0, ps, c)) rfl hop0 hq).symm.trans hR
          refine r_iload2 dX5_readTruth_12 ?_
          refine r_aloadR0 dX5_readTruth_13 ?_
          refine m_getV (x := (f2_z A 1)) zf_RX5_15 rfl dX5_readTruth_14 hr.1 (rfl) ?_
          refine t_icge (t := 57) dX5_readTruth_17 (by decide) (fun h17 => False.elim (by omega)) (fun h17 => ?_)
          refine r_aloadR0 dX5_readTruth_20 ?_
          refine k_gets (ko.2.1 ("OR", 6) (List.mem_of_getElem? (i := 8) rfl)) zg_RX5_167 dX5_readTruth_21 ?_
          refine q_callV1 zm_RX5_170 dX5_readTruth_24 hr.1 (by decide) rfl (Nat.le_of_ble_eq_true rfl) (Nat.le_of_ble_eq_true rfl) (Nat.le_of_ble_eq_true rfl) (Nat.le_of_ble_eq_true rfl) (Nat.le_of_ble_eq_true rfl) (s_X5_isWord (i := 6) G hr kw ko (by decide) htk2 (fun r24 e24_z => ?_))
          have e24b : r24.toInt = 1 := e24_z.elim (fun h_z => h_z.1) (fun h_z => absurd hc_z h_z.2)
          refine t_ifeq (t := 57) dX5_readTruth_27 (by decide) (fun h27 => False.elim (by omega)) (fun h27 => ?_)
          refine r_aloadR0 dX5_readTruth_30 ?_
          refine q_callV0 zm_RX5_73 dX5_readTruth_31 hr.1 (by decide) rfl (Nat.le_of_ble_eq_true rfl) (Nat.le_of_ble_eq_true rfl) (Nat.le_of_ble_eq_true rfl) (Nat.le_of_ble_eq_true rfl) (Nat.le_of_ble_eq_true rfl) (s_X5_next (p := teP B n ps) G hr kw ko htp2 htk2.2.1 (teP_le htk2.1) htk2.2.2.2.2.2.2 (fun v31 g31 o31 t31 => ?_))
          have t31 : tkR ca B n g31 v31 A (nxP B n ps) := t31
          have htpn := tpR_of htp2 ht o31 (by decide)
          have wn : g31 (A + 8) = f2_z (A + 8) := o31.2.1 8 (by decide) (by decide) (by decide)
          refine r_aloadR0 dX5_readTruth_34 ?_
          refine r_iload1 dX5_readTruth_35 ?_
          refine q_callV1 zm_RX5_164 dX5_readTruth_36 hr.1 (by decide) rfl (Nat.le_of_ble_eq_true rfl) (Nat.le_of_ble_eq_true rfl) (Nat.le_of_ble_eq_true rfl) (Nat.le_of_ble_eq_true rfl) (Nat.le_of_ble_eq_true rfl) (s_X5_readBoth_3 (lm := lm) (u := u + c.length) G hr kw ko htpn t31 hx (by rw [o31.2.2 10 (by decide), ofr.2.2 10 (by decide)]; exact hol) (by rw [o31.2.2 9 (by decide)]; exact hok.1) (by omega) (fun rs vs gs os as bs => ?_))
          have as2 : ((chP B n (unP B n (if lm = 5 then 8 else 6) 3) (opA B n)) (nxP B n ps)).1 = 0 → rs.toInt = 1 ∧ tkR ca B n gs vs A ((chP B n (unP B n (if lm = 5 then 8 else 6) 3) (opA B n)) (nxP B n ps)).2.1 ∧ okR g31 gs A (u + c.length) ((chP B n (unP B n (if lm = 5 then 8 else 6) 3) (opA B n)) (nxP B n ps)).2.2 := as
          have bs2 : ((chP B n (unP B n (if lm = 5 then 8 else 6) 3) (opA B n)) (nxP B n ps)).1 ≠ 0 → rs.toInt = 0 ∧ flR gs A ((chP B n (unP B n (if lm = 5 then 8 else 6) 3) (opA B n)) (nxP B n ps)).1 ((chP B n (unP B n (if lm = 5 then 8 else 6) 3) (opA B n)) (nxP B n ps)).2.1 := bs
          have ofs : frM A [8] [2, 3, 4, 5, 9, 11, 12] f gs := frM_tr ofr (frM_tr (frM_su o31 (by decide) (by decide)) os)
          obtain ⟨cs, ls⟩ := bs2 hq
          refine t_ifne (t := 44) dX5_readTruth_39 (by decide) (fun h39 => False.elim (by omega)) (fun h39 => ?_)
          refine n_iconst dX5_readTruth_42 (by decide) (fun r42 e42_z => ?_)
          refine m_zret dX5_readTruth_43 rfl (by omega) (Nat.le_of_ble_eq_true rfl) (Nat.le_of_ble_eq_true rfl) ?_
          rw [← hv] at hQ
          exact hQ _ _ gs ofs (fun h_z => absurd h_z hq) (fun _ => ⟨e42_z, ls⟩)
      have hop : (opO B n) ps = 0 := if_neg hc_z
      have hv := (lpP_end (B := B) (n := n) (k := k) (sub := (chP B n (unP B n (if lm = 5 then 8 else 6) 3) (opA B n))) (r := (0, ps, c)) hop).symm.trans hR
      refine r_iload2 dX5_readTruth_12 ?_
      refine r_aloadR0 dX5_readTruth_13 ?_
      refine m_getV (x := (f2_z A 1)) zf_RX5_15 rfl dX5_readTruth_14 hr.1 (rfl) ?_
      refine t_icge (t := 57) dX5_readTruth_17 (by decide) (fun h17 => False.elim (by omega)) (fun h17 => ?_)
      refine r_aloadR0 dX5_readTruth_20 ?_
      refine k_gets (ko.2.1 ("OR", 6) (List.mem_of_getElem? (i := 8) rfl)) zg_RX5_167 dX5_readTruth_21 ?_
      refine q_callV1 zm_RX5_170 dX5_readTruth_24 hr.1 (by decide) rfl (Nat.le_of_ble_eq_true rfl) (Nat.le_of_ble_eq_true rfl) (Nat.le_of_ble_eq_true rfl) (Nat.le_of_ble_eq_true rfl) (Nat.le_of_ble_eq_true rfl) (s_X5_isWord (i := 6) G hr kw ko (by decide) htk2 (fun r24 e24_z => ?_))
      have e24b : r24.toInt = 0 := e24_z.elim (fun h_z => absurd h_z.2 hc_z) (fun h_z => h_z.1)
      refine t_ifeq (t := 57) dX5_readTruth_27 (by decide) (fun h27 => ?_) (fun h27 => False.elim (by omega))
      refine n_iconst dX5_readTruth_57 (by decide) (fun r57 e57 => ?_)
      refine m_zret dX5_readTruth_58 rfl (by omega) (Nat.le_of_ble_eq_true rfl) (Nat.le_of_ble_eq_true rfl) ?_
      rw [← hv] at hQ
      exact hQ _ _ f2_z ofr (fun _ => ⟨e57, htk2, hok⟩) (fun h_z => absurd rfl h_z)
  have gp := hgd p hpn
  by_cases hq : ((chP B n (unP B n (if lm = 5 then 8 else 6) 3) (opA B n)) p).1 = 0
  · obtain ⟨y1, y2, y3, y4⟩ := gp.1 hq
    have hz : ((chP B n (unP B n (if lm = 5 then 8 else 6) 3) (opA B n)) p) = (0, ((chP B n (unP B n (if lm = 5 then 8 else 6) 3) (opA B n)) p).2.1, ((chP B n (unP B n (if lm = 5 then 8 else 6) 3) (opA B n)) p).2.2) := Prod.ext hq rfl
    refine r_aloadR0 dX5_readTruth_0 ?_
    refine r_iload1 dX5_readTruth_1 ?_
    refine q_callV1 zm_RX5_164 dX5_readTruth_2 hr.1 (by decide) rfl (Nat.le_of_ble_eq_true rfl) (Nat.le_of_ble_eq_true rfl) (Nat.le_of_ble_eq_true rfl) (Nat.le_of_ble_eq_true rfl) (Nat.le_of_ble_eq_true rfl) (s_X5_readBoth_3 G hr kw ko htp htk hx hol hu hup (fun r2 v2 g2 o2 a2 b2 => ?_))
    have a2b : ((chP B n (unP B n (if lm = 5 then 8 else 6) 3) (opA B n)) p).1 = 0 → r2.toInt = 1 ∧ tkR ca B n g2 v2 A ((chP B n (unP B n (if lm = 5 then 8 else 6) 3) (opA B n)) p).2.1 ∧ okR f g2 A u ((chP B n (unP B n (if lm = 5 then 8 else 6) 3) (opA B n)) p).2.2 := a2
    have b2b : ((chP B n (unP B n (if lm = 5 then 8 else 6) 3) (opA B n)) p).1 ≠ 0 → r2.toInt = 0 ∧ flR g2 A ((chP B n (unP B n (if lm = 5 then 8 else 6) 3) (opA B n)) p).1 ((chP B n (unP B n (if lm = 5 then 8 else 6) 3) (opA B n)) p).2.1 := b2
    obtain ⟨c2_z, t2, k2_z⟩ := a2b hq
    refine t_ifne (t := 10) dX5_readTruth_5 (by decide) (fun h5 => ?_) (fun h5 => False.elim (by omega))
    refine n_iconst dX5_readTruth_10 (by decide) (fun r10 e10_z => ?_)
    refine r_istore2 dX5_readTruth_11 rfl ?_
    exact lp (n + 1) _ 0 n ((chP B n (unP B n (if lm = 5 then 8 else 6) 3) (opA B n)) p).2.1 ((chP B n (unP B n (if lm = 5 then 8 else 6) 3) (opA B n)) p).2.2 g2 _ (by omega) o2 t2 k2_z (by omega) y2 y3 (by omega) (by rw [← hz]; rfl) (Nat.lt_succ_self n)
  · have hv : chP B n (chP B n (unP B n (if lm = 5 then 8 else 6) 3) (opA B n)) (opO B n) p = ((chP B n (unP B n (if lm = 5 then 8 else 6) 3) (opA B n)) p) := lpP_bad hq
    rw [hv] at hQ
    refine r_aloadR0 dX5_readTruth_0 ?_
    refine r_iload1 dX5_readTruth_1 ?_
    refine q_callV1 zm_RX5_164 dX5_readTruth_2 hr.1 (by decide) rfl (Nat.le_of_ble_eq_true rfl) (Nat.le_of_ble_eq_true rfl) (Nat.le_of_ble_eq_true rfl) (Nat.le_of_ble_eq_true rfl) (Nat.le_of_ble_eq_true rfl) (s_X5_readBoth_3 G hr kw ko htp htk hx hol hu hup (fun r2 v2 g2 o2 a2 b2 => ?_))
    have a2b : ((chP B n (unP B n (if lm = 5 then 8 else 6) 3) (opA B n)) p).1 = 0 → r2.toInt = 1 ∧ tkR ca B n g2 v2 A ((chP B n (unP B n (if lm = 5 then 8 else 6) 3) (opA B n)) p).2.1 ∧ okR f g2 A u ((chP B n (unP B n (if lm = 5 then 8 else 6) 3) (opA B n)) p).2.2 := a2
    have b2b : ((chP B n (unP B n (if lm = 5 then 8 else 6) 3) (opA B n)) p).1 ≠ 0 → r2.toInt = 0 ∧ flR g2 A ((chP B n (unP B n (if lm = 5 then 8 else 6) 3) (opA B n)) p).1 ((chP B n (unP B n (if lm = 5 then 8 else 6) 3) (opA B n)) p).2.1 := b2
    obtain ⟨c2_z, l2⟩ := b2b hq
    refine t_ifne (t := 10) dX5_readTruth_5 (by decide) (fun h5 => False.elim (by omega)) (fun h5 => ?_)
    refine n_iconst dX5_readTruth_8 (by decide) (fun r8 e8 => ?_)
    refine m_zret dX5_readTruth_9 rfl (by omega) (Nat.le_of_ble_eq_true rfl) (Nat.le_of_ble_eq_true rfl) ?_
    exact hQ _ _ g2 o2 (fun h_z => absurd h_z hq) (fun _ => ⟨e8, l2⟩)
set_option maxHeartbeats 4000000 in
set_option maxRecDepth 100000 in
theorem s_X5_readUnit_4 {g : zGT} {w : zW} {f : Nat → Nat → Int32} {j : Nat → Nat → Int64} {A tq nq : Nat} {v : Option Nat} {B : Nat → Nat} {n : Nat} {ca wa wv : Nat → Nat} {kq ta sm gq gv : Nat} {p lm u : Nat} {x : Int32} {Q : Option Value → zW → Prop} {QX : String → zW → Prop} (G : zGok g) (hr : shRd w A tq nq) (kw : kWd g wa wv kq) (ko : kWo g ca wa wv ta sm gq gv) (htp : tpR B n f A tq) (htk : tkR ca B n f v A p) (hx : x.toInt = 2) (hol : (f A 10).toInt = if lm = 5 then 1 else 0) (hu : (f A 9).toInt = (u : Nat)) (hup : u ≤ p) (hQ : ∀ (b : Int32) v2 f2_z, frM A [8] [2, 3, 4, 5, 9, 11, 12] f f2_z → ((unP B n (if lm = 5 then 8 else 6) 4 p).1 = 0 → b.toInt = 1 ∧ tkR ca B n f2_z v2 A (unP B n (if lm = 5 then 8 else 6) 4 p).2.1 ∧ okR f f2_z A u (unP B n (if lm = 5 then 8 else 6) 4 p).2.2) → ((unP B n (if lm = 5 then 8 else 6) 4 p).1 ≠ 0 → b.toInt = 0 ∧ flR f2_z A (unP B n (if lm = 5 then 8 else 6) 4 p).1 (unP B n (if lm = 5 then 8 else 6) 4 p).2.1) → Q (some (.int b)) (zM (wW w A v2) f2_z j)) : zC g 56 yX5_readUnit cX5_readUnit 3 (some .boolean) [.ref A, .int x] (zM (wW w A v) f j) (0, 0) Q QX := by
  refine zC_of G (by decide +kernel) (Nat.le_of_ble_eq_true rfl) ?_
  have ht := hr.2.2.2.2.2.2
  have h4 := htk.2.2.2.1
  have hpn := htk.1
  have h900 := htp.2.1
  have hsm : ∀ s, s ≤ n → gdP n false (if lm = 5 then 8 else 6) (1 + 2 * 4 + 2) s (smP B n (if lm = 5 then 8 else 6) 4 s) := fun s hs9 => gd_su (gd_at (by split <;> decide) 4) hs9
  by_cases hw : isWd B n p 8 = true
  · have hv : unP B n (if lm = 5 then 8 else 6) 4 p = noP ((unP B n (if lm = 5 then 8 else 6) 3) (nxP B n p)) := if_pos hw
    rw [hv] at hQ
    have hwt := isWd_tk hw
    have hln := tk_lt (B := B) (n := n) (s := p) (by rw [hwt.1]; decide)
    have hnx := nxP_gt (B := B) hln
    have hgu : gdP n true (if lm = 5 then 8 else 6) (4 + 2 * 3) (nxP B n p) ((unP B n (if lm = 5 then 8 else 6) 3) (nxP B n p)) := gd_un (by split <;> decide) 3 _ hnx.2
    by_cases hq : ((unP B n (if lm = 5 then 8 else 6) 3) (nxP B n p)).1 = 0
    · have hv2 : noP ((unP B n (if lm = 5 then 8 else 6) 3) (nxP B n p)) = (0, ((unP B n (if lm = 5 then 8 else 6) 3) (nxP B n p)).2.1, ((unP B n (if lm = 5 then 8 else 6) 3) (nxP B n p)).2.2 ++ [2000]) := if_neg (not_not_intro hq)
      rw [hv2] at hQ
      obtain ⟨y1, y2, y3, y4⟩ := hgu.1 hq
      refine r_aloadR0 dX5_readUnit_0 ?_
      refine k_gets (ko.2.1 ("NOT", 8) (List.mem_of_getElem? (i := 4) rfl)) zg_RX5_182 dX5_readUnit_1 ?_
      refine q_callV1 zm_RX5_170 dX5_readUnit_4 hr.1 (by decide) rfl (Nat.le_of_ble_eq_true rfl) (Nat.le_of_ble_eq_true rfl) (Nat.le_of_ble_eq_true rfl) (Nat.le_of_ble_eq_true rfl) (Nat.le_of_ble_eq_true rfl) (s_X5_isWord (i := 8) G hr kw ko (by decide) htk (fun r4 e4_z => ?_))
      have e4b : r4.toInt = 1 := e4_z.elim (fun h_z => h_z.1) (fun h_z => absurd hw h_z.2)
      refine t_ifeq (t := 39) dX5_readUnit_7 (by decide) (fun h7 => False.elim (by omega)) (fun h7 => ?_)
      refine r_aloadR0 dX5_readUnit_10 ?_
      refine r_iload1 dX5_readUnit_11 ?_
      refine q_callV1 zm_RX5_185 dX5_readUnit_12 hr.1 (by decide) rfl (Nat.le_of_ble_eq_true rfl) (Nat.le_of_ble_eq_true rfl) (Nat.le_of_ble_eq_true rfl) (Nat.le_of_ble_eq_true rfl) (Nat.le_of_ble_eq_true rfl) (s_X5_goDeeper (d := 2) G hr kw ko htp hx htk (fun rd vd gd od ad bd => ?_))
      obtain ⟨cd, td⟩ := ad (by decide)
      have htpd := tpR_of htp ht od (by decide)
      have wd : gd (A + 8) = f (A + 8) := od.2.1 8 (by decide) (by decide) (by decide)
      refine t_ifeq (t := 28) dX5_readUnit_15 (by decide) (fun h15 => False.elim (by omega)) (fun h15 => ?_)
      refine r_aloadR0 dX5_readUnit_18 ?_
      refine r_iload1 dX5_readUnit_19 ?_
      refine n_iconst dX5_readUnit_20 (by decide) (fun r20 e20 => ?_)
      refine n_iadd dX5_readUnit_21 (by omega) (fun r21 e21_z => ?_)
      refine q_callV1 zm_RX5_176 dX5_readUnit_22 hr.1 (by decide) rfl (Nat.le_of_ble_eq_true rfl) (Nat.le_of_ble_eq_true rfl) (Nat.le_of_ble_eq_true rfl) (Nat.le_of_ble_eq_true rfl) (Nat.le_of_ble_eq_true rfl) (s_X5_readUnit_3 (lm := lm) (u := u) G hr kw ko htpd td (by omega) (by rw [od.2.2 10 (by decide)]; exact hol) (by rw [od.2.2 9 (by decide)]; exact hu) (by omega) (fun rs vs gs os as bs => ?_))
      have as2 : ((unP B n (if lm = 5 then 8 else 6) 3) (nxP B n p)).1 = 0 → rs.toInt = 1 ∧ tkR ca B n gs vs A ((unP B n (if lm = 5 then 8 else 6) 3) (nxP B n p)).2.1 ∧ okR gd gs A u ((unP B n (if lm = 5 then 8 else 6) 3) (nxP B n p)).2.2 := as
      have bs2 : ((unP B n (if lm = 5 then 8 else 6) 3) (nxP B n p)).1 ≠ 0 → rs.toInt = 0 ∧ flR gs A ((unP B n (if lm = 5 then 8 else 6) 3) (nxP B n p)).1 ((unP B n (if lm = 5 then 8 else 6) 3) (nxP B n p)).2.1 := bs
      have ofs : frM A [8] [2, 3, 4, 5, 9, 11, 12] f gs := frM_tr (frM_su od (by decide) (by decide)) os
      obtain ⟨cs, ts, ks⟩ := as2 hq
      refine t_ifne (t := 30) dX5_readUnit_25 (by decide) (fun h25 => ?_) (fun h25 => False.elim (by omega))
      refine r_aloadR0 dX5_readUnit_30 ?_
      refine n_sipush dX5_readUnit_31 (by decide) (fun r31 e31_z => ?_)
      refine q_callV1 zm_RX5_173 dX5_readUnit_34 hr.1 (by decide) rfl (Nat.le_of_ble_eq_true rfl) (Nat.le_of_ble_eq_true rfl) (Nat.le_of_ble_eq_true rfl) (Nat.le_of_ble_eq_true rfl) (Nat.le_of_ble_eq_true rfl) (s_X5_emit (u := u + ((unP B n (if lm = 5 then 8 else 6) 3) (nxP B n p)).2.2.length) G hr ks.1 (by omega) (fun g34 o34 a34 b34 c34 => ?_))
      refine n_iconst dX5_readUnit_37 (by decide) (fun r37 e37 => ?_)
      refine m_zret dX5_readUnit_38 rfl (by omega) (Nat.le_of_ble_eq_true rfl) (Nat.le_of_ble_eq_true rfl) ?_
      exact hQ _ _ g34 (frM_tr ofs (frM_su o34 (by decide) (by decide))) (fun _ => ⟨e37, tkR_of ts o34 (by decide) (by decide) (by decide) (by decide), okR_ap (okR_cg ks wd rfl rfl) (okR_one a34 b34 c34 (by omega))⟩) (fun h_z => absurd rfl h_z)
    · have hv2 : noP ((unP B n (if lm = 5 then 8 else 6) 3) (nxP B n p)) = ((unP B n (if lm = 5 then 8 else 6) 3) (nxP B n p)) := if_pos hq
      rw [hv2] at hQ
      refine r_aloadR0 dX5_readUnit_0 ?_
      refine k_gets (ko.2.1 ("NOT", 8) (List.mem_of_getElem? (i := 4) rfl)) zg_RX5_182 dX5_readUnit_1 ?_
      refine q_callV1 zm_RX5_170 dX5_readUnit_4 hr.1 (by decide) rfl (Nat.le_of_ble_eq_true rfl) (Nat.le_of_ble_eq_true rfl) (Nat.le_of_ble_eq_true rfl) (Nat.le_of_ble_eq_true rfl) (Nat.le_of_ble_eq_true rfl) (s_X5_isWord (i := 8) G hr kw ko (by decide) htk (fun r4 e4_z => ?_))
      have e4b : r4.toInt = 1 := e4_z.elim (fun h_z => h_z.1) (fun h_z => absurd hw h_z.2)
      refine t_ifeq (t := 39) dX5_readUnit_7 (by decide) (fun h7 => False.elim (by omega)) (fun h7 => ?_)
      refine r_aloadR0 dX5_readUnit_10 ?_
      refine r_iload1 dX5_readUnit_11 ?_
      refine q_callV1 zm_RX5_185 dX5_readUnit_12 hr.1 (by decide) rfl (Nat.le_of_ble_eq_true rfl) (Nat.le_of_ble_eq_true rfl) (Nat.le_of_ble_eq_true rfl) (Nat.le_of_ble_eq_true rfl) (Nat.le_of_ble_eq_true rfl) (s_X5_goDeeper (d := 2) G hr kw ko htp hx htk (fun rd vd gd od ad bd => ?_))
      obtain ⟨cd, td⟩ := ad (by decide)
      have htpd := tpR_of htp ht od (by decide)
      have wd : gd (A + 8) = f (A + 8) := od.2.1 8 (by decide) (by decide) (by decide)
      refine t_ifeq (t := 28) dX5_readUnit_15 (by decide) (fun h15 => False.elim (by omega)) (fun h15 => ?_)
      refine r_aloadR0 dX5_readUnit_18 ?_
      refine r_iload1 dX5_readUnit_19 ?_
      refine n_iconst dX5_readUnit_20 (by decide) (fun r20 e20 => ?_)
      refine n_iadd dX5_readUnit_21 (by omega) (fun r21 e21_z => ?_)
      refine q_callV1 zm_RX5_176 dX5_readUnit_22 hr.1 (by decide) rfl (Nat.le_of_ble_eq_true rfl) (Nat.le_of_ble_eq_true rfl) (Nat.le_of_ble_eq_true rfl) (Nat.le_of_ble_eq_true rfl) (Nat.le_of_ble_eq_true rfl) (s_X5_readUnit_3 (lm := lm) (u := u) G hr kw ko htpd td (by omega) (by rw [od.2.2 10 (by decide)]; exact hol) (by rw [od.2.2 9 (by decide)]; exact hu) (by omega) (fun rs vs gs os as bs => ?_))
      have as2 : ((unP B n (if lm = 5 then 8 else 6) 3) (nxP B n p)).1 = 0 → rs.toInt = 1 ∧ tkR ca B n gs vs A ((unP B n (if lm = 5 then 8 else 6) 3) (nxP B n p)).2.1 ∧ okR gd gs A u ((unP B n (if lm = 5 then 8 else 6) 3) (nxP B n p)).2.2 := as
      have bs2 : ((unP B n (if lm = 5 then 8 else 6) 3) (nxP B n p)).1 ≠ 0 → rs.toInt = 0 ∧ flR gs A ((unP B n (if lm = 5 then 8 else 6) 3) (nxP B n p)).1 ((unP B n (if lm = 5 then 8 else 6) 3) (nxP B n p)).2.1 := bs
      have ofs : frM A [8] [2, 3, 4, 5, 9, 11, 12] f gs := frM_tr (frM_su od (by decide) (by decide)) os
      obtain ⟨cs, ls⟩ := bs2 hq
      refine t_ifne (t := 30) dX5_readUnit_25 (by decide) (fun h25 => False.elim (by omega)) (fun h25 => ?_)
      refine n_iconst dX5_readUnit_28 (by decide) (fun r28 e28_z => ?_)
      refine m_zret dX5_readUnit_29 rfl (by omega) (Nat.le_of_ble_eq_true rfl) (Nat.le_of_ble_eq_true rfl) ?_
      exact hQ _ _ gs ofs (fun h_z => absurd h_z hq) (fun _ => ⟨e28_z, ls⟩)
  by_cases hp : tkP B n p = 91
  · have hv : unP B n (if lm = 5 then 8 else 6) 4 p = clP B n 93 (trU B n (unP B n (if lm = 5 then 8 else 6) 3) (nxP B n p)) := (if_neg hw).trans (if_pos hp)
    rw [hv] at hQ
    have hln := tk_lt (B := B) (n := n) (s := p) (by rw [hp]; decide)
    have hnx := nxP_gt (B := B) hln
    by_cases hq : (trU B n (unP B n (if lm = 5 then 8 else 6) 3) (nxP B n p)).1 = 0
    · by_cases h93 : tkP B n (trU B n (unP B n (if lm = 5 then 8 else 6) 3) (nxP B n p)).2.1 = 93
      · have hv2 : clP B n 93 (trU B n (unP B n (if lm = 5 then 8 else 6) 3) (nxP B n p)) = (0, nxP B n (trU B n (unP B n (if lm = 5 then 8 else 6) 3) (nxP B n p)).2.1, (trU B n (unP B n (if lm = 5 then 8 else 6) 3) (nxP B n p)).2.2) := (if_neg (not_not_intro hq)).trans (if_pos h93)
        rw [hv2] at hQ
        refine r_aloadR0 dX5_readUnit_0 ?_
        refine k_gets (ko.2.1 ("NOT", 8) (List.mem_of_getElem? (i := 4) rfl)) zg_RX5_182 dX5_readUnit_1 ?_
        refine q_callV1 zm_RX5_170 dX5_readUnit_4 hr.1 (by decide) rfl (Nat.le_of_ble_eq_true rfl) (Nat.le_of_ble_eq_true rfl) (Nat.le_of_ble_eq_true rfl) (Nat.le_of_ble_eq_true rfl) (Nat.le_of_ble_eq_true rfl) (s_X5_isWord (i := 8) G hr kw ko (by decide) htk (fun r4 e4_z => ?_))
        have e4b : r4.toInt = 0 := e4_z.elim (fun h_z => absurd h_z.2 hw) (fun h_z => h_z.1)
        refine t_ifeq (t := 39) dX5_readUnit_7 (by decide) (fun h7 => ?_) (fun h7 => False.elim (by omega))
        refine r_aloadR0 dX5_readUnit_39 ?_
        refine m_getV (x := (f A 4)) zf_RX5_25 rfl dX5_readUnit_40 hr.1 (rfl) ?_
        refine n_bipush dX5_readUnit_43 (by decide) (fun r43 e43 => ?_)
        refine t_icne (t := 81) dX5_readUnit_45 (by decide) (fun h45 => False.elim (by omega)) (fun h45 => ?_)
        refine r_aloadR0 dX5_readUnit_48 ?_
        refine r_iload1 dX5_readUnit_49 ?_
        refine q_callV1 zm_RX5_185 dX5_readUnit_50 hr.1 (by decide) rfl (Nat.le_of_ble_eq_true rfl) (Nat.le_of_ble_eq_true rfl) (Nat.le_of_ble_eq_true rfl) (Nat.le_of_ble_eq_true rfl) (Nat.le_of_ble_eq_true rfl) (s_X5_goDeeper (d := 2) G hr kw ko htp hx htk (fun rd vd gd od ad bd => ?_))
        obtain ⟨cd, td⟩ := ad (by decide)
        have htpd := tpR_of htp ht od (by decide)
        have wd : gd (A + 8) = f (A + 8) := od.2.1 8 (by decide) (by decide) (by decide)
        refine t_ifeq (t := 79) dX5_readUnit_53 (by decide) (fun h53 => False.elim (by omega)) (fun h53 => ?_)
        refine r_aloadR0 dX5_readUnit_56 ?_
        refine r_iload1 dX5_readUnit_57 ?_
        refine n_iconst dX5_readUnit_58 (by decide) (fun r58 e58 => ?_)
        refine n_iadd dX5_readUnit_59 (by omega) (fun r59 e59 => ?_)
        refine q_callV1 zm_RX5_143 dX5_readUnit_60 hr.1 (by decide) rfl (Nat.le_of_ble_eq_true rfl) (Nat.le_of_ble_eq_true rfl) (Nat.le_of_ble_eq_true rfl) (Nat.le_of_ble_eq_true rfl) (Nat.le_of_ble_eq_true rfl) (s_X5_readTruth_3 (lm := lm) (u := u) G hr kw ko htpd td (by omega) (by rw [od.2.2 10 (by decide)]; exact hol) (by rw [od.2.2 9 (by decide)]; exact hu) (by omega) (fun rs vs gs os as bs => ?_))
        have as2 : (trU B n (unP B n (if lm = 5 then 8 else 6) 3) (nxP B n p)).1 = 0 → rs.toInt = 1 ∧ tkR ca B n gs vs A (trU B n (unP B n (if lm = 5 then 8 else 6) 3) (nxP B n p)).2.1 ∧ okR gd gs A u (trU B n (unP B n (if lm = 5 then 8 else 6) 3) (nxP B n p)).2.2 := as
        have bs2 : (trU B n (unP B n (if lm = 5 then 8 else 6) 3) (nxP B n p)).1 ≠ 0 → rs.toInt = 0 ∧ flR gs A (trU B n (unP B n (if lm = 5 then 8 else 6) 3) (nxP B n p)).1 (trU B n (unP B n (if lm = 5 then 8 else 6) 3) (nxP B n p)).2.1 := bs
        have ofs : frM A [8] [2, 3, 4, 5, 9, 11, 12] f gs := frM_tr (frM_su od (by decide) (by decide)) os
        obtain ⟨cs, ts, ks⟩ := as2 hq
        refine t_ifeq (t := 79) dX5_readUnit_63 (by decide) (fun h63 => False.elim (by omega)) (fun h63 => ?_)
        refine r_aloadR0 dX5_readUnit_66 ?_
        refine n_bipush dX5_readUnit_67 (by decide) (fun r67 e67 => ?_)
        refine q_callV1 zm_RX5_102 dX5_readUnit_69 hr.1 (by decide) rfl (Nat.le_of_ble_eq_true rfl) (Nat.le_of_ble_eq_true rfl) (Nat.le_of_ble_eq_true rfl) (Nat.le_of_ble_eq_true rfl) (Nat.le_of_ble_eq_true rfl) (s_X5_takeSign (s := (trU B n (unP B n (if lm = 5 then 8 else 6) 3) (nxP B n p)).2.1) (c := 93) G hr kw ko (tpR_of htp ht ofs (by decide)) e67 ts (fun r69 v69 g69 o69 a69 b69 => ?_))
        obtain ⟨c69, t69⟩ := a69 h93
        refine t_ifeq (t := 79) dX5_readUnit_72 (by decide) (fun h72 => False.elim (by omega)) (fun h72 => ?_)
        refine n_iconst dX5_readUnit_75 (by decide) (fun r75 e75 => ?_)
        refine r_goto (t := 80) dX5_readUnit_76 (by decide) ?_
        refine m_zret dX5_readUnit_80 rfl (by omega) (Nat.le_of_ble_eq_true rfl) (Nat.le_of_ble_eq_true rfl) ?_
        exact hQ _ _ g69 (frM_tr ofs (frM_su o69 (by decide) (by decide))) (fun _ => ⟨e75, t69, okR_cg ks wd (o69.2.1 8 (by decide) (by decide) (by decide)) (o69.2.2 9 (by decide))⟩) (fun h_z => absurd rfl h_z)
      · have hv2 : clP B n 93 (trU B n (unP B n (if lm = 5 then 8 else 6) 3) (nxP B n p)) = (baP B n (trU B n (unP B n (if lm = 5 then 8 else 6) 3) (nxP B n p)).2.1, (trU B n (unP B n (if lm = 5 then 8 else 6) 3) (nxP B n p)).2.1, []) := (if_neg (not_not_intro hq)).trans (if_neg h93)
        rw [hv2] at hQ
        refine r_aloadR0 dX5_readUnit_0 ?_
        refine k_gets (ko.2.1 ("NOT", 8) (List.mem_of_getElem? (i := 4) rfl)) zg_RX5_182 dX5_readUnit_1 ?_
        refine q_callV1 zm_RX5_170 dX5_readUnit_4 hr.1 (by decide) rfl (Nat.le_of_ble_eq_true rfl) (Nat.le_of_ble_eq_true rfl) (Nat.le_of_ble_eq_true rfl) (Nat.le_of_ble_eq_true rfl) (Nat.le_of_ble_eq_true rfl) (s_X5_isWord (i := 8) G hr kw ko (by decide) htk (fun r4 e4_z => ?_))
        have e4b : r4.toInt = 0 := e4_z.elim (fun h_z => absurd h_z.2 hw) (fun h_z => h_z.1)
        refine t_ifeq (t := 39) dX5_readUnit_7 (by decide) (fun h7 => ?_) (fun h7 => False.elim (by omega))
        refine r_aloadR0 dX5_readUnit_39 ?_
        refine m_getV (x := (f A 4)) zf_RX5_25 rfl dX5_readUnit_40 hr.1 (rfl) ?_
        refine n_bipush dX5_readUnit_43 (by decide) (fun r43 e43 => ?_)
        refine t_icne (t := 81) dX5_readUnit_45 (by decide) (fun h45 => False.elim (by omega)) (fun h45 => ?_)
        refine r_aloadR0 dX5_readUnit_48 ?_
        refine r_iload1 dX5_readUnit_49 ?_
        refine q_callV1 zm_RX5_185 dX5_readUnit_50 hr.1 (by decide) rfl (Nat.le_of_ble_eq_true rfl) (Nat.le_of_ble_eq_true rfl) (Nat.le_of_ble_eq_true rfl) (Nat.le_of_ble_eq_true rfl) (Nat.le_of_ble_eq_true rfl) (s_X5_goDeeper (d := 2) G hr kw ko htp hx htk (fun rd vd gd od ad bd => ?_))
        obtain ⟨cd, td⟩ := ad (by decide)
        have htpd := tpR_of htp ht od (by decide)
        have wd : gd (A + 8) = f (A + 8) := od.2.1 8 (by decide) (by decide) (by decide)
        refine t_ifeq (t := 79) dX5_readUnit_53 (by decide) (fun h53 => False.elim (by omega)) (fun h53 => ?_)
        refine r_aloadR0 dX5_readUnit_56 ?_
        refine r_iload1 dX5_readUnit_57 ?_
        refine n_iconst dX5_readUnit_58 (by decide) (fun r58 e58 => ?_)
        refine n_iadd dX5_readUnit_59 (by omega) (fun r59 e59 => ?_)
        refine q_callV1 zm_RX5_143 dX5_readUnit_60 hr.1 (by decide) rfl (Nat.le_of_ble_eq_true rfl) (Nat.le_of_ble_eq_true rfl) (Nat.le_of_ble_eq_true rfl) (Nat.le_of_ble_eq_true rfl) (Nat.le_of_ble_eq_true rfl) (s_X5_readTruth_3 (lm := lm) (u := u) G hr kw ko htpd td (by omega) (by rw [od.2.2 10 (by decide)]; exact hol) (by rw [od.2.2 9 (by decide)]; exact hu) (by omega) (fun rs vs gs os as bs => ?_))
        have as2 : (trU B n (unP B n (if lm = 5 then 8 else 6) 3) (nxP B n p)).1 = 0 → rs.toInt = 1 ∧ tkR ca B n gs vs A (trU B n (unP B n (if lm = 5 then 8 else 6) 3) (nxP B n p)).2.1 ∧ okR gd gs A u (trU B n (unP B n (if lm = 5 then 8 else 6) 3) (nxP B n p)).2.2 := as
        have bs2 : (trU B n (unP B n (if lm = 5 then 8 else 6) 3) (nxP B n p)).1 ≠ 0 → rs.toInt = 0 ∧ flR gs A (trU B n (unP B n (if lm = 5 then 8 else 6) 3) (nxP B n p)).1 (trU B n (unP B n (if lm = 5 then 8 else 6) 3) (nxP B n p)).2.1 := bs
        have ofs : frM A [8] [2, 3, 4, 5, 9, 11, 12] f gs := frM_tr (frM_su od (by decide) (by decide)) os
        obtain ⟨cs, ts, ks⟩ := as2 hq
        refine t_ifeq (t := 79) dX5_readUnit_63 (by decide) (fun h63 => False.elim (by omega)) (fun h63 => ?_)
        refine r_aloadR0 dX5_readUnit_66 ?_
        refine n_bipush dX5_readUnit_67 (by decide) (fun r67 e67 => ?_)
        refine q_callV1 zm_RX5_102 dX5_readUnit_69 hr.1 (by decide) rfl (Nat.le_of_ble_eq_true rfl) (Nat.le_of_ble_eq_true rfl) (Nat.le_of_ble_eq_true rfl) (Nat.le_of_ble_eq_true rfl) (Nat.le_of_ble_eq_true rfl) (s_X5_takeSign (s := (trU B n (unP B n (if lm = 5 then 8 else 6) 3) (nxP B n p)).2.1) (c := 93) G hr kw ko (tpR_of htp ht ofs (by decide)) e67 ts (fun r69 v69 g69 o69 a69 b69 => ?_))
        obtain ⟨c69, l69⟩ := b69 h93
        refine t_ifeq (t := 79) dX5_readUnit_72 (by decide) (fun h72 => ?_) (fun h72 => False.elim (by omega))
        refine n_iconst dX5_readUnit_79 (by decide) (fun r79 e79 => ?_)
        refine m_zret dX5_readUnit_80 rfl (by omega) (Nat.le_of_ble_eq_true rfl) (Nat.le_of_ble_eq_true rfl) ?_
        exact hQ _ _ g69 (frM_tr ofs (frM_su o69 (by decide) (by decide))) (fun h_z => absurd h_z ba_bd.1) (fun _ => ⟨e79, l69⟩)
    · have hv2 : clP B n 93 (trU B n (unP B n (if lm = 5 then 8 else 6) 3) (nxP B n p)) = (trU B n (unP B n (if lm = 5 then 8 else 6) 3) (nxP B n p)) := if_pos hq
      rw [hv2] at hQ
      refine r_aloadR0 dX5_readUnit_0 ?_
      refine k_gets (ko.2.1 ("NOT", 8) (List.mem_of_getElem? (i := 4) rfl)) zg_RX5_182 dX5_readUnit_1 ?_
      refine q_callV1 zm_RX5_170 dX5_readUnit_4 hr.1 (by decide) rfl (Nat.le_of_ble_eq_true rfl) (Nat.le_of_ble_eq_true rfl) (Nat.le_of_ble_eq_true rfl) (Nat.le_of_ble_eq_true rfl) (Nat.le_of_ble_eq_true rfl) (s_X5_isWord (i := 8) G hr kw ko (by decide) htk (fun r4 e4_z => ?_))
      have e4b : r4.toInt = 0 := e4_z.elim (fun h_z => absurd h_z.2 hw) (fun h_z => h_z.1)
      refine t_ifeq (t := 39) dX5_readUnit_7 (by decide) (fun h7 => ?_) (fun h7 => False.elim (by omega))
      refine r_aloadR0 dX5_readUnit_39 ?_
      refine m_getV (x := (f A 4)) zf_RX5_25 rfl dX5_readUnit_40 hr.1 (rfl) ?_
      refine n_bipush dX5_readUnit_43 (by decide) (fun r43 e43 => ?_)
      refine t_icne (t := 81) dX5_readUnit_45 (by decide) (fun h45 => False.elim (by omega)) (fun h45 => ?_)
      refine r_aloadR0 dX5_readUnit_48 ?_
      refine r_iload1 dX5_readUnit_49 ?_
      refine q_callV1 zm_RX5_185 dX5_readUnit_50 hr.1 (by decide) rfl (Nat.le_of_ble_eq_true rfl) (Nat.le_of_ble_eq_true rfl) (Nat.le_of_ble_eq_true rfl) (Nat.le_of_ble_eq_true rfl) (Nat.le_of_ble_eq_true rfl) (s_X5_goDeeper (d := 2) G hr kw ko htp hx htk (fun rd vd gd od ad bd => ?_))
      obtain ⟨cd, td⟩ := ad (by decide)
      have htpd := tpR_of htp ht od (by decide)
      have wd : gd (A + 8) = f (A + 8) := od.2.1 8 (by decide) (by decide) (by decide)
      refine t_ifeq (t := 79) dX5_readUnit_53 (by decide) (fun h53 => False.elim (by omega)) (fun h53 => ?_)
      refine r_aloadR0 dX5_readUnit_56 ?_
      refine r_iload1 dX5_readUnit_57 ?_
      refine n_iconst dX5_readUnit_58 (by decide) (fun r58 e58 => ?_)
      refine n_iadd dX5_readUnit_59 (by omega) (fun r59 e59 => ?_)
      refine q_callV1 zm_RX5_143 dX5_readUnit_60 hr.1 (by decide) rfl (Nat.le_of_ble_eq_true rfl) (Nat.le_of_ble_eq_true rfl) (Nat.le_of_ble_eq_true rfl) (Nat.le_of_ble_eq_true rfl) (Nat.le_of_ble_eq_true rfl) (s_X5_readTruth_3 (lm := lm) (u := u) G hr kw ko htpd td (by omega) (by rw [od.2.2 10 (by decide)]; exact hol) (by rw [od.2.2 9 (by decide)]; exact hu) (by omega) (fun rs vs gs os as bs => ?_))
      have as2 : (trU B n (unP B n (if lm = 5 then 8 else 6) 3) (nxP B n p)).1 = 0 → rs.toInt = 1 ∧ tkR ca B n gs vs A (trU B n (unP B n (if lm = 5 then 8 else 6) 3) (nxP B n p)).2.1 ∧ okR gd gs A u (trU B n (unP B n (if lm = 5 then 8 else 6) 3) (nxP B n p)).2.2 := as
      have bs2 : (trU B n (unP B n (if lm = 5 then 8 else 6) 3) (nxP B n p)).1 ≠ 0 → rs.toInt = 0 ∧ flR gs A (trU B n (unP B n (if lm = 5 then 8 else 6) 3) (nxP B n p)).1 (trU B n (unP B n (if lm = 5 then 8 else 6) 3) (nxP B n p)).2.1 := bs
      have ofs : frM A [8] [2, 3, 4, 5, 9, 11, 12] f gs := frM_tr (frM_su od (by decide) (by decide)) os
      obtain ⟨cs, ls⟩ := bs2 hq
      refine t_ifeq (t := 79) dX5_readUnit_63 (by decide) (fun h63 => ?_) (fun h63 => False.elim (by omega))
      refine n_iconst dX5_readUnit_79 (by decide) (fun r79 e79 => ?_)
      refine m_zret dX5_readUnit_80 rfl (by omega) (Nat.le_of_ble_eq_true rfl) (Nat.le_of_ble_eq_true rfl) ?_
      exact hQ _ _ gs ofs (fun h_z => absurd h_z hq) (fun _ => ⟨e79, ls⟩)
  have hv0 : unP B n (if lm = 5 then 8 else 6) 4 p = cmP B n (smP B n (if lm = 5 then 8 else 6) 4) p := (if_neg hw).trans (if_neg hp)
  rw [hv0] at hQ
  by_cases hq : (smP B n (if lm = 5 then 8 else 6) 4 p).1 = 0
  · obtain ⟨y1, y2, y3, y4⟩ := (hsm p hpn).1 hq
    by_cases hop : opC B n (smP B n (if lm = 5 then 8 else 6) 4 p).2.1 = 0
    · have hv : cmP B n (smP B n (if lm = 5 then 8 else 6) 4) p = (baP B n (smP B n (if lm = 5 then 8 else 6) 4 p).2.1, (smP B n (if lm = 5 then 8 else 6) 4 p).2.1, []) := (if_neg (not_not_intro hq)).trans (if_pos hop)
      rw [hv] at hQ
      have hba := ba_bd (B := B) (n := n) (s := (smP B n (if lm = 5 then 8 else 6) 4 p).2.1)
      refine r_aloadR0 dX5_readUnit_0 ?_
      refine k_gets (ko.2.1 ("NOT", 8) (List.mem_of_getElem? (i := 4) rfl)) zg_RX5_182 dX5_readUnit_1 ?_
      refine q_callV1 zm_RX5_170 dX5_readUnit_4 hr.1 (by decide) rfl (Nat.le_of_ble_eq_true rfl) (Nat.le_of_ble_eq_true rfl) (Nat.le_of_ble_eq_true rfl) (Nat.le_of_ble_eq_true rfl) (Nat.le_of_ble_eq_true rfl) (s_X5_isWord (i := 8) G hr kw ko (by decide) htk (fun r4 e4_z => ?_))
      have e4b : r4.toInt = 0 := e4_z.elim (fun h_z => absurd h_z.2 hw) (fun h_z => h_z.1)
      refine t_ifeq (t := 39) dX5_readUnit_7 (by decide) (fun h7 => ?_) (fun h7 => False.elim (by omega))
      refine r_aloadR0 dX5_readUnit_39 ?_
      refine m_getV (x := (f A 4)) zf_RX5_25 rfl dX5_readUnit_40 hr.1 (rfl) ?_
      refine n_bipush dX5_readUnit_43 (by decide) (fun r43 e43 => ?_)
      refine t_icne (t := 81) dX5_readUnit_45 (by decide) (fun h45 => ?_) (fun h45 => False.elim (by omega))
      refine r_aloadR0 dX5_readUnit_81 ?_
      refine r_iload1 dX5_readUnit_82 ?_
      refine q_callV1 zm_RX5_146 dX5_readUnit_83 hr.1 (by decide) rfl (Nat.le_of_ble_eq_true rfl) (Nat.le_of_ble_eq_true rfl) (Nat.le_of_ble_eq_true rfl) (Nat.le_of_ble_eq_true rfl) (Nat.le_of_ble_eq_true rfl) (s_X5_readSum_4 (lm := lm) (u := u) G hr kw ko htp htk hx hol hu hup (fun r83 v83 g83 o83 a83 b83 => ?_))
      have a83b : (smP B n (if lm = 5 then 8 else 6) 4 p).1 = 0 → r83.toInt = 1 ∧ tkR ca B n g83 v83 A (smP B n (if lm = 5 then 8 else 6) 4 p).2.1 ∧ okR f g83 A u (smP B n (if lm = 5 then 8 else 6) 4 p).2.2 := a83
      have b83b : (smP B n (if lm = 5 then 8 else 6) 4 p).1 ≠ 0 → r83.toInt = 0 ∧ flR g83 A (smP B n (if lm = 5 then 8 else 6) 4 p).1 (smP B n (if lm = 5 then 8 else 6) 4 p).2.1 := b83
      obtain ⟨c83, t83, k83⟩ := a83b hq
      have htp83 := tpR_of htp ht o83 (by decide)
      refine t_ifne (t := 91) dX5_readUnit_86 (by decide) (fun h86 => ?_) (fun h86 => False.elim (by omega))
      refine r_aloadR0 dX5_readUnit_91 ?_
      refine q_callV0 zm_RX5_188 dX5_readUnit_92 hr.1 (by decide) rfl (Nat.le_of_ble_eq_true rfl) (Nat.le_of_ble_eq_true rfl) (Nat.le_of_ble_eq_true rfl) (Nat.le_of_ble_eq_true rfl) (Nat.le_of_ble_eq_true rfl) (s_X5_comparing (n := n) (B := B) (s := (smP B n (if lm = 5 then 8 else 6) 4 p).2.1) G hr t83 (fun r92 a92 b92 => ?_))
      have e92_z := a92 hop
      refine r_istore2 dX5_readUnit_95 rfl ?_
      refine r_iload2 dX5_readUnit_96 ?_
      refine n_iconst dX5_readUnit_97 (by decide) (fun r97 e97_z => ?_)
      refine t_icne (t := 106) dX5_readUnit_98 (by decide) (fun h98 => False.elim (by omega)) (fun h98 => ?_)
      refine r_aloadR0 dX5_readUnit_101 ?_
      refine q_callV0 zm_RX5_80 dX5_readUnit_102 hr.1 (by decide) rfl (Nat.le_of_ble_eq_true rfl) (Nat.le_of_ble_eq_true rfl) (Nat.le_of_ble_eq_true rfl) (Nat.le_of_ble_eq_true rfl) (Nat.le_of_ble_eq_true rfl) (s_X5_refuseToken G hr t83 (fun r102 g102 e102_z o102 l102 => ?_))
      refine m_zret dX5_readUnit_105 rfl (by omega) (Nat.le_of_ble_eq_true rfl) (Nat.le_of_ble_eq_true rfl) ?_
      exact hQ _ _ g102 (frM_tr o83 (frM_su o102 (by decide) (by decide))) (fun h_z => absurd h_z hba.1) (fun _ => ⟨e102_z, l102⟩)
    · have hcb := (hop_C (B := B) (n := n) _ hop)
      have hnx := nxP_gt (B := B) hcb.1
      have hge : 2000 ≤ opC B n (smP B n (if lm = 5 then 8 else 6) 4 p).2.1 := by rcases hcb.2 with ⟨_, _, h_z⟩ | ⟨_, _, h_z⟩ | ⟨_, _, h_z⟩ <;> omega
      by_cases hq2 : (smP B n (if lm = 5 then 8 else 6) 4 (nxP B n (smP B n (if lm = 5 then 8 else 6) 4 p).2.1)).1 = 0
      · obtain ⟨z1, z2, z3, z4⟩ := (hsm _ hnx.2).1 hq2
        have hv : cmP B n (smP B n (if lm = 5 then 8 else 6) 4) p = (0, (smP B n (if lm = 5 then 8 else 6) 4 (nxP B n (smP B n (if lm = 5 then 8 else 6) 4 p).2.1)).2.1, (smP B n (if lm = 5 then 8 else 6) 4 p).2.2 ++ (smP B n (if lm = 5 then 8 else 6) 4 (nxP B n (smP B n (if lm = 5 then 8 else 6) 4 p).2.1)).2.2 ++ [opC B n (smP B n (if lm = 5 then 8 else 6) 4 p).2.1]) := (if_neg (not_not_intro hq)).trans ((if_neg hop).trans (if_neg (not_not_intro hq2)))
        rw [hv] at hQ
        refine r_aloadR0 dX5_readUnit_0 ?_
        refine k_gets (ko.2.1 ("NOT", 8) (List.mem_of_getElem? (i := 4) rfl)) zg_RX5_182 dX5_readUnit_1 ?_
        refine q_callV1 zm_RX5_170 dX5_readUnit_4 hr.1 (by decide) rfl (Nat.le_of_ble_eq_true rfl) (Nat.le_of_ble_eq_true rfl) (Nat.le_of_ble_eq_true rfl) (Nat.le_of_ble_eq_true rfl) (Nat.le_of_ble_eq_true rfl) (s_X5_isWord (i := 8) G hr kw ko (by decide) htk (fun r4 e4_z => ?_))
        have e4b : r4.toInt = 0 := e4_z.elim (fun h_z => absurd h_z.2 hw) (fun h_z => h_z.1)
        refine t_ifeq (t := 39) dX5_readUnit_7 (by decide) (fun h7 => ?_) (fun h7 => False.elim (by omega))
        refine r_aloadR0 dX5_readUnit_39 ?_
        refine m_getV (x := (f A 4)) zf_RX5_25 rfl dX5_readUnit_40 hr.1 (rfl) ?_
        refine n_bipush dX5_readUnit_43 (by decide) (fun r43 e43 => ?_)
        refine t_icne (t := 81) dX5_readUnit_45 (by decide) (fun h45 => ?_) (fun h45 => False.elim (by omega))
        refine r_aloadR0 dX5_readUnit_81 ?_
        refine r_iload1 dX5_readUnit_82 ?_
        refine q_callV1 zm_RX5_146 dX5_readUnit_83 hr.1 (by decide) rfl (Nat.le_of_ble_eq_true rfl) (Nat.le_of_ble_eq_true rfl) (Nat.le_of_ble_eq_true rfl) (Nat.le_of_ble_eq_true rfl) (Nat.le_of_ble_eq_true rfl) (s_X5_readSum_4 (lm := lm) (u := u) G hr kw ko htp htk hx hol hu hup (fun r83 v83 g83 o83 a83 b83 => ?_))
        have a83b : (smP B n (if lm = 5 then 8 else 6) 4 p).1 = 0 → r83.toInt = 1 ∧ tkR ca B n g83 v83 A (smP B n (if lm = 5 then 8 else 6) 4 p).2.1 ∧ okR f g83 A u (smP B n (if lm = 5 then 8 else 6) 4 p).2.2 := a83
        have b83b : (smP B n (if lm = 5 then 8 else 6) 4 p).1 ≠ 0 → r83.toInt = 0 ∧ flR g83 A (smP B n (if lm = 5 then 8 else 6) 4 p).1 (smP B n (if lm = 5 then 8 else 6) 4 p).2.1 := b83
        obtain ⟨c83, t83, k83⟩ := a83b hq
        have htp83 := tpR_of htp ht o83 (by decide)
        refine t_ifne (t := 91) dX5_readUnit_86 (by decide) (fun h86 => ?_) (fun h86 => False.elim (by omega))
        refine r_aloadR0 dX5_readUnit_91 ?_
        refine q_callV0 zm_RX5_188 dX5_readUnit_92 hr.1 (by decide) rfl (Nat.le_of_ble_eq_true rfl) (Nat.le_of_ble_eq_true rfl) (Nat.le_of_ble_eq_true rfl) (Nat.le_of_ble_eq_true rfl) (Nat.le_of_ble_eq_true rfl) (s_X5_comparing (n := n) (B := B) (s := (smP B n (if lm = 5 then 8 else 6) 4 p).2.1) G hr t83 (fun r92 a92 b92 => ?_))
        have e92_z := b92 hop
        refine r_istore2 dX5_readUnit_95 rfl ?_
        refine r_iload2 dX5_readUnit_96 ?_
        refine n_iconst dX5_readUnit_97 (by decide) (fun r97 e97_z => ?_)
        refine t_icne (t := 106) dX5_readUnit_98 (by decide) (fun h98 => ?_) (fun h98 => False.elim (by omega))
        refine r_aloadR0 dX5_readUnit_106 ?_
        refine q_callV0 zm_RX5_73 dX5_readUnit_107 hr.1 (by decide) rfl (Nat.le_of_ble_eq_true rfl) (Nat.le_of_ble_eq_true rfl) (Nat.le_of_ble_eq_true rfl) (Nat.le_of_ble_eq_true rfl) (Nat.le_of_ble_eq_true rfl) (s_X5_next (p := teP B n (smP B n (if lm = 5 then 8 else 6) 4 p).2.1) G hr kw ko htp83 t83.2.1 (teP_le t83.1) t83.2.2.2.2.2.2 (fun v107 g107 o107 t107 => ?_))
        have t107 : tkR ca B n g107 v107 A (nxP B n (smP B n (if lm = 5 then 8 else 6) 4 p).2.1) := t107
        have htpn := tpR_of htp83 ht o107 (by decide)
        have wn : g107 (A + 8) = g83 (A + 8) := o107.2.1 8 (by decide) (by decide) (by decide)
        refine r_aloadR0 dX5_readUnit_110 ?_
        refine r_iload1 dX5_readUnit_111 ?_
        refine q_callV1 zm_RX5_146 dX5_readUnit_112 hr.1 (by decide) rfl (Nat.le_of_ble_eq_true rfl) (Nat.le_of_ble_eq_true rfl) (Nat.le_of_ble_eq_true rfl) (Nat.le_of_ble_eq_true rfl) (Nat.le_of_ble_eq_true rfl) (s_X5_readSum_4 (lm := lm) (u := u + (smP B n (if lm = 5 then 8 else 6) 4 p).2.2.length) G hr kw ko htpn t107 hx (by rw [o107.2.2 10 (by decide), o83.2.2 10 (by decide)]; exact hol) (by rw [o107.2.2 9 (by decide)]; exact k83.1) (by omega) (fun rs vs gs os as bs => ?_))
        have as2 : (smP B n (if lm = 5 then 8 else 6) 4 (nxP B n (smP B n (if lm = 5 then 8 else 6) 4 p).2.1)).1 = 0 → rs.toInt = 1 ∧ tkR ca B n gs vs A (smP B n (if lm = 5 then 8 else 6) 4 (nxP B n (smP B n (if lm = 5 then 8 else 6) 4 p).2.1)).2.1 ∧ okR g107 gs A (u + (smP B n (if lm = 5 then 8 else 6) 4 p).2.2.length) (smP B n (if lm = 5 then 8 else 6) 4 (nxP B n (smP B n (if lm = 5 then 8 else 6) 4 p).2.1)).2.2 := as
        have bs2 : (smP B n (if lm = 5 then 8 else 6) 4 (nxP B n (smP B n (if lm = 5 then 8 else 6) 4 p).2.1)).1 ≠ 0 → rs.toInt = 0 ∧ flR gs A (smP B n (if lm = 5 then 8 else 6) 4 (nxP B n (smP B n (if lm = 5 then 8 else 6) 4 p).2.1)).1 (smP B n (if lm = 5 then 8 else 6) 4 (nxP B n (smP B n (if lm = 5 then 8 else 6) 4 p).2.1)).2.1 := bs
        have ofs : frM A [8] [2, 3, 4, 5, 9, 11, 12] f gs := frM_tr o83 (frM_tr (frM_su o107 (by decide) (by decide)) os)
        obtain ⟨cs, ts, ks⟩ := as2 hq2
        refine t_ifne (t := 120) dX5_readUnit_115 (by decide) (fun h115 => ?_) (fun h115 => False.elim (by omega))
        refine r_aloadR0 dX5_readUnit_120 ?_
        refine r_iload2 dX5_readUnit_121 ?_
        refine q_callV1 zm_RX5_173 dX5_readUnit_122 hr.1 (by decide) rfl (Nat.le_of_ble_eq_true rfl) (Nat.le_of_ble_eq_true rfl) (Nat.le_of_ble_eq_true rfl) (Nat.le_of_ble_eq_true rfl) (Nat.le_of_ble_eq_true rfl) (s_X5_emit (u := u + (smP B n (if lm = 5 then 8 else 6) 4 p).2.2.length + (smP B n (if lm = 5 then 8 else 6) 4 (nxP B n (smP B n (if lm = 5 then 8 else 6) 4 p).2.1)).2.2.length) G hr ks.1 (by omega) (fun g122 o122 a122 b122 c122 => ?_))
        refine n_iconst dX5_readUnit_125 (by decide) (fun r125 e125_z => ?_)
        refine m_zret dX5_readUnit_126 rfl (by omega) (Nat.le_of_ble_eq_true rfl) (Nat.le_of_ble_eq_true rfl) ?_
        refine hQ _ _ g122 (frM_tr ofs (frM_su o122 (by decide) (by decide))) (fun _ => ⟨e125_z, tkR_of ts o122 (by decide) (by decide) (by decide) (by decide), okR_ap (okR_ap k83 (okR_cg ks wn rfl rfl)) ?_⟩) (fun h_z => absurd rfl h_z)
        rw [List.length_append, ← Nat.add_assoc]
        exact okR_one a122 b122 c122 e92_z
      · have hv : cmP B n (smP B n (if lm = 5 then 8 else 6) 4) p = (smP B n (if lm = 5 then 8 else 6) 4 (nxP B n (smP B n (if lm = 5 then 8 else 6) 4 p).2.1)) := (if_neg (not_not_intro hq)).trans ((if_neg hop).trans (if_pos hq2))
        rw [hv] at hQ
        refine r_aloadR0 dX5_readUnit_0 ?_
        refine k_gets (ko.2.1 ("NOT", 8) (List.mem_of_getElem? (i := 4) rfl)) zg_RX5_182 dX5_readUnit_1 ?_
        refine q_callV1 zm_RX5_170 dX5_readUnit_4 hr.1 (by decide) rfl (Nat.le_of_ble_eq_true rfl) (Nat.le_of_ble_eq_true rfl) (Nat.le_of_ble_eq_true rfl) (Nat.le_of_ble_eq_true rfl) (Nat.le_of_ble_eq_true rfl) (s_X5_isWord (i := 8) G hr kw ko (by decide) htk (fun r4 e4_z => ?_))
        have e4b : r4.toInt = 0 := e4_z.elim (fun h_z => absurd h_z.2 hw) (fun h_z => h_z.1)
        refine t_ifeq (t := 39) dX5_readUnit_7 (by decide) (fun h7 => ?_) (fun h7 => False.elim (by omega))
        refine r_aloadR0 dX5_readUnit_39 ?_
        refine m_getV (x := (f A 4)) zf_RX5_25 rfl dX5_readUnit_40 hr.1 (rfl) ?_
        refine n_bipush dX5_readUnit_43 (by decide) (fun r43 e43 => ?_)
        refine t_icne (t := 81) dX5_readUnit_45 (by decide) (fun h45 => ?_) (fun h45 => False.elim (by omega))
        refine r_aloadR0 dX5_readUnit_81 ?_
        refine r_iload1 dX5_readUnit_82 ?_
        refine q_callV1 zm_RX5_146 dX5_readUnit_83 hr.1 (by decide) rfl (Nat.le_of_ble_eq_true rfl) (Nat.le_of_ble_eq_true rfl) (Nat.le_of_ble_eq_true rfl) (Nat.le_of_ble_eq_true rfl) (Nat.le_of_ble_eq_true rfl) (s_X5_readSum_4 (lm := lm) (u := u) G hr kw ko htp htk hx hol hu hup (fun r83 v83 g83 o83 a83 b83 => ?_))
        have a83b : (smP B n (if lm = 5 then 8 else 6) 4 p).1 = 0 → r83.toInt = 1 ∧ tkR ca B n g83 v83 A (smP B n (if lm = 5 then 8 else 6) 4 p).2.1 ∧ okR f g83 A u (smP B n (if lm = 5 then 8 else 6) 4 p).2.2 := a83
        have b83b : (smP B n (if lm = 5 then 8 else 6) 4 p).1 ≠ 0 → r83.toInt = 0 ∧ flR g83 A (smP B n (if lm = 5 then 8 else 6) 4 p).1 (smP B n (if lm = 5 then 8 else 6) 4 p).2.1 := b83
        obtain ⟨c83, t83, k83⟩ := a83b hq
        have htp83 := tpR_of htp ht o83 (by decide)
        refine t_ifne (t := 91) dX5_readUnit_86 (by decide) (fun h86 => ?_) (fun h86 => False.elim (by omega))
        refine r_aloadR0 dX5_readUnit_91 ?_
        refine q_callV0 zm_RX5_188 dX5_readUnit_92 hr.1 (by decide) rfl (Nat.le_of_ble_eq_true rfl) (Nat.le_of_ble_eq_true rfl) (Nat.le_of_ble_eq_true rfl) (Nat.le_of_ble_eq_true rfl) (Nat.le_of_ble_eq_true rfl) (s_X5_comparing (n := n) (B := B) (s := (smP B n (if lm = 5 then 8 else 6) 4 p).2.1) G hr t83 (fun r92 a92 b92 => ?_))
        have e92_z := b92 hop
        refine r_istore2 dX5_readUnit_95 rfl ?_
        refine r_iload2 dX5_readUnit_96 ?_
        refine n_iconst dX5_readUnit_97 (by decide) (fun r97 e97_z => ?_)
        refine t_icne (t := 106) dX5_readUnit_98 (by decide) (fun h98 => ?_) (fun h98 => False.elim (by omega))
        refine r_aloadR0 dX5_readUnit_106 ?_
        refine q_callV0 zm_RX5_73 dX5_readUnit_107 hr.1 (by decide) rfl (Nat.le_of_ble_eq_true rfl) (Nat.le_of_ble_eq_true rfl) (Nat.le_of_ble_eq_true rfl) (Nat.le_of_ble_eq_true rfl) (Nat.le_of_ble_eq_true rfl) (s_X5_next (p := teP B n (smP B n (if lm = 5 then 8 else 6) 4 p).2.1) G hr kw ko htp83 t83.2.1 (teP_le t83.1) t83.2.2.2.2.2.2 (fun v107 g107 o107 t107 => ?_))
        have t107 : tkR ca B n g107 v107 A (nxP B n (smP B n (if lm = 5 then 8 else 6) 4 p).2.1) := t107
        have htpn := tpR_of htp83 ht o107 (by decide)
        have wn : g107 (A + 8) = g83 (A + 8) := o107.2.1 8 (by decide) (by decide) (by decide)
        refine r_aloadR0 dX5_readUnit_110 ?_
        refine r_iload1 dX5_readUnit_111 ?_
        refine q_callV1 zm_RX5_146 dX5_readUnit_112 hr.1 (by decide) rfl (Nat.le_of_ble_eq_true rfl) (Nat.le_of_ble_eq_true rfl) (Nat.le_of_ble_eq_true rfl) (Nat.le_of_ble_eq_true rfl) (Nat.le_of_ble_eq_true rfl) (s_X5_readSum_4 (lm := lm) (u := u + (smP B n (if lm = 5 then 8 else 6) 4 p).2.2.length) G hr kw ko htpn t107 hx (by rw [o107.2.2 10 (by decide), o83.2.2 10 (by decide)]; exact hol) (by rw [o107.2.2 9 (by decide)]; exact k83.1) (by omega) (fun rs vs gs os as bs => ?_))
        have as2 : (smP B n (if lm = 5 then 8 else 6) 4 (nxP B n (smP B n (if lm = 5 then 8 else 6) 4 p).2.1)).1 = 0 → rs.toInt = 1 ∧ tkR ca B n gs vs A (smP B n (if lm = 5 then 8 else 6) 4 (nxP B n (smP B n (if lm = 5 then 8 else 6) 4 p).2.1)).2.1 ∧ okR g107 gs A (u + (smP B n (if lm = 5 then 8 else 6) 4 p).2.2.length) (smP B n (if lm = 5 then 8 else 6) 4 (nxP B n (smP B n (if lm = 5 then 8 else 6) 4 p).2.1)).2.2 := as
        have bs2 : (smP B n (if lm = 5 then 8 else 6) 4 (nxP B n (smP B n (if lm = 5 then 8 else 6) 4 p).2.1)).1 ≠ 0 → rs.toInt = 0 ∧ flR gs A (smP B n (if lm = 5 then 8 else 6) 4 (nxP B n (smP B n (if lm = 5 then 8 else 6) 4 p).2.1)).1 (smP B n (if lm = 5 then 8 else 6) 4 (nxP B n (smP B n (if lm = 5 then 8 else 6) 4 p).2.1)).2.1 := bs
        have ofs : frM A [8] [2, 3, 4, 5, 9, 11, 12] f gs := frM_tr o83 (frM_tr (frM_su o107 (by decide) (by decide)) os)
        obtain ⟨cs, ls⟩ := bs2 hq2
        refine t_ifne (t := 120) dX5_readUnit_115 (by decide) (fun h115 => False.elim (by omega)) (fun h115 => ?_)
        refine n_iconst dX5_readUnit_118 (by decide) (fun r118 e118_z => ?_)
        refine m_zret dX5_readUnit_119 rfl (by omega) (Nat.le_of_ble_eq_true rfl) (Nat.le_of_ble_eq_true rfl) ?_
        exact hQ _ _ gs ofs (fun h_z => absurd h_z hq2) (fun _ => ⟨e118_z, ls⟩)
  · have hv : cmP B n (smP B n (if lm = 5 then 8 else 6) 4) p = (smP B n (if lm = 5 then 8 else 6) 4 p) := if_pos hq
    rw [hv] at hQ
    refine r_aloadR0 dX5_readUnit_0 ?_
    refine k_gets (ko.2.1 ("NOT", 8) (List.mem_of_getElem? (i := 4) rfl)) zg_RX5_182 dX5_readUnit_1 ?_
    refine q_callV1 zm_RX5_170 dX5_readUnit_4 hr.1 (by decide) rfl (Nat.le_of_ble_eq_true rfl) (Nat.le_of_ble_eq_true rfl) (Nat.le_of_ble_eq_true rfl) (Nat.le_of_ble_eq_true rfl) (Nat.le_of_ble_eq_true rfl) (s_X5_isWord (i := 8) G hr kw ko (by decide) htk (fun r4 e4_z => ?_))
    have e4b : r4.toInt = 0 := e4_z.elim (fun h_z => absurd h_z.2 hw) (fun h_z => h_z.1)
    refine t_ifeq (t := 39) dX5_readUnit_7 (by decide) (fun h7 => ?_) (fun h7 => False.elim (by omega))
    refine r_aloadR0 dX5_readUnit_39 ?_
    refine m_getV (x := (f A 4)) zf_RX5_25 rfl dX5_readUnit_40 hr.1 (rfl) ?_
    refine n_bipush dX5_readUnit_43 (by decide) (fun r43 e43 => ?_)
    refine t_icne (t := 81) dX5_readUnit_45 (by decide) (fun h45 => ?_) (fun h45 => False.elim (by omega))
    refine r_aloadR0 dX5_readUnit_81 ?_
    refine r_iload1 dX5_readUnit_82 ?_
    refine q_callV1 zm_RX5_146 dX5_readUnit_83 hr.1 (by decide) rfl (Nat.le_of_ble_eq_true rfl) (Nat.le_of_ble_eq_true rfl) (Nat.le_of_ble_eq_true rfl) (Nat.le_of_ble_eq_true rfl) (Nat.le_of_ble_eq_true rfl) (s_X5_readSum_4 (lm := lm) (u := u) G hr kw ko htp htk hx hol hu hup (fun r83 v83 g83 o83 a83 b83 => ?_))
    have a83b : (smP B n (if lm = 5 then 8 else 6) 4 p).1 = 0 → r83.toInt = 1 ∧ tkR ca B n g83 v83 A (smP B n (if lm = 5 then 8 else 6) 4 p).2.1 ∧ okR f g83 A u (smP B n (if lm = 5 then 8 else 6) 4 p).2.2 := a83
    have b83b : (smP B n (if lm = 5 then 8 else 6) 4 p).1 ≠ 0 → r83.toInt = 0 ∧ flR g83 A (smP B n (if lm = 5 then 8 else 6) 4 p).1 (smP B n (if lm = 5 then 8 else 6) 4 p).2.1 := b83
    obtain ⟨c83, l83⟩ := b83b hq
    refine t_ifne (t := 91) dX5_readUnit_86 (by decide) (fun h86 => False.elim (by omega)) (fun h86 => ?_)
    refine n_iconst dX5_readUnit_89 (by decide) (fun r89 e89 => ?_)
    refine m_zret dX5_readUnit_90 rfl (by omega) (Nat.le_of_ble_eq_true rfl) (Nat.le_of_ble_eq_true rfl) ?_
    exact hQ _ _ g83 o83 (fun h_z => absurd h_z hq) (fun _ => ⟨e89, l83⟩)
set_option maxHeartbeats 4000000 in
set_option maxRecDepth 100000 in
theorem s_X5_readBoth_4 {g : zGT} {w : zW} {f : Nat → Nat → Int32} {j : Nat → Nat → Int64} {A tq nq : Nat} {v : Option Nat} {B : Nat → Nat} {n : Nat} {ca wa wv : Nat → Nat} {kq ta sm gq gv : Nat} {p lm u : Nat} {x : Int32} {Q : Option Value → zW → Prop} {QX : String → zW → Prop} (G : zGok g) (hr : shRd w A tq nq) (kw : kWd g wa wv kq) (ko : kWo g ca wa wv ta sm gq gv) (htp : tpR B n f A tq) (htk : tkR ca B n f v A p) (hx : x.toInt = 2) (hol : (f A 10).toInt = if lm = 5 then 1 else 0) (hu : (f A 9).toInt = (u : Nat)) (hup : u ≤ p) (hQ : ∀ (b : Int32) v2 f2_z, frM A [8] [2, 3, 4, 5, 9, 11, 12] f f2_z → ((chP B n (unP B n (if lm = 5 then 8 else 6) 4) (opA B n) p).1 = 0 → b.toInt = 1 ∧ tkR ca B n f2_z v2 A (chP B n (unP B n (if lm = 5 then 8 else 6) 4) (opA B n) p).2.1 ∧ okR f f2_z A u (chP B n (unP B n (if lm = 5 then 8 else 6) 4) (opA B n) p).2.2) → ((chP B n (unP B n (if lm = 5 then 8 else 6) 4) (opA B n) p).1 ≠ 0 → b.toInt = 0 ∧ flR f2_z A (chP B n (unP B n (if lm = 5 then 8 else 6) 4) (opA B n) p).1 (chP B n (unP B n (if lm = 5 then 8 else 6) 4) (opA B n) p).2.1) → Q (some (.int b)) (zM (wW w A v2) f2_z j)) : zC g 57 yX5_readBoth cX5_readBoth 3 (some .boolean) [.ref A, .int x] (zM (wW w A v) f j) (0, 0) Q QX := by
  refine zC_of G (by decide +kernel) (Nat.le_of_ble_eq_true rfl) ?_
  have ht := hr.2.2.2.2.2.2
  have h4 := htk.2.2.2.1
  have hpn := htk.1
  have h900 := htp.2.1
  have hgd : ∀ s, s ≤ n → gdP n true (if lm = 5 then 8 else 6) (4 + 2 * 4) s ((unP B n (if lm = 5 then 8 else 6) 4) s) := gd_un (by split <;> decide) 4
  have lp : ∀ (mz : Nat) (uu : Int32) (i : Nat) (k : Nat) (ps : Nat) (c : List Nat) (f2_z : Nat → Nat → Int32) (vv : Option Nat), uu.toInt = (i : Nat) → frM A [8] [2, 3, 4, 5, 9, 11, 12] f f2_z → tkR ca B n f2_z vv A ps → okR f f2_z A u c → p + i < ps → ps ≤ n → c.length + p ≤ ps → n ≤ k + ps → lpP B n (unP B n (if lm = 5 then 8 else 6) 4) (opA B n) k (0, ps, c) = chP B n (unP B n (if lm = 5 then 8 else 6) 4) (opA B n) p → k < mz → zR (zV g 57 yX5_readBoth 3 (some .boolean) (0, 0) Q QX) cX5_readBoth yX5_readBoth.cls 12 [some (.ref A), some (.int x), some (.int uu)] [] (zM (wW w A vv) f2_z j) (0, 0) := by
    intro mz
    induction mz with
    | zero =>
      intro uu i k ps c f2_z vv hui ofr htk2 hok hpi hps hcl hnk hR hmz
      exact absurd hmz (Nat.not_lt_zero _)
    | succ mz ih =>
      intro uu i k ps c f2_z vv hui ofr htk2 hok hpi hps hcl hnk hR hmz
      have htp2 := tpR_of htp ht ofr (by decide)
      have h1 := htp2.1
      have htk4 := htk2.2.2.2.1
      have hi9 : i < n := by omega
      by_cases hc_z : isWd B n ps 7 = true
      · have hop : (opA B n) ps = 2001 := if_pos hc_z
        have hop0 : (opA B n) ps ≠ 0 := by rw [hop]; decide
        have hln := tk_lt (B := B) (n := n) (s := ps) (by rw [(isWd_tk hc_z).1]; decide)
        obtain ⟨k2_z, rfl⟩ : ∃ k2_z, k = k2_z + 1 := ⟨k - 1, by omega⟩
        have hnx := nxP_gt (B := B) hln
        have gq := hgd _ hnx.2
        by_cases hq : ((unP B n (if lm = 5 then 8 else 6) 4) (nxP B n ps)).1 = 0
        · obtain ⟨y1, y2, y3, y4⟩ := gq.1 hq
          refine r_iload2 dX5_readBoth_12 ?_
          refine r_aloadR0 dX5_readBoth_13 ?_
          refine m_getV (x := (f2_z A 1)) zf_RX5_15 rfl dX5_readBoth_14 hr.1 (rfl) ?_
          refine t_icge (t := 57) dX5_readBoth_17 (by decide) (fun h17 => False.elim (by omega)) (fun h17 => ?_)
          refine r_aloadR0 dX5_readBoth_20 ?_
          refine k_gets (ko.2.1 ("AND", 7) (List.mem_of_getElem? (i := 7) rfl)) zg_RX5_179 dX5_readBoth_21 ?_
          refine q_callV1 zm_RX5_170 dX5_readBoth_24 hr.1 (by decide) rfl (Nat.le_of_ble_eq_true rfl) (Nat.le_of_ble_eq_true rfl) (Nat.le_of_ble_eq_true rfl) (Nat.le_of_ble_eq_true rfl) (Nat.le_of_ble_eq_true rfl) (s_X5_isWord (i := 7) G hr kw ko (by decide) htk2 (fun r24 e24_z => ?_))
          have e24b : r24.toInt = 1 := e24_z.elim (fun h_z => h_z.1) (fun h_z => absurd hc_z h_z.2)
          refine t_ifeq (t := 57) dX5_readBoth_27 (by decide) (fun h27 => False.elim (by omega)) (fun h27 => ?_)
          refine r_aloadR0 dX5_readBoth_30 ?_
          refine q_callV0 zm_RX5_73 dX5_readBoth_31 hr.1 (by decide) rfl (Nat.le_of_ble_eq_true rfl) (Nat.le_of_ble_eq_true rfl) (Nat.le_of_ble_eq_true rfl) (Nat.le_of_ble_eq_true rfl) (Nat.le_of_ble_eq_true rfl) (s_X5_next (p := teP B n ps) G hr kw ko htp2 htk2.2.1 (teP_le htk2.1) htk2.2.2.2.2.2.2 (fun v31 g31 o31 t31 => ?_))
          have t31 : tkR ca B n g31 v31 A (nxP B n ps) := t31
          have htpn := tpR_of htp2 ht o31 (by decide)
          have wn : g31 (A + 8) = f2_z (A + 8) := o31.2.1 8 (by decide) (by decide) (by decide)
          refine r_aloadR0 dX5_readBoth_34 ?_
          refine r_iload1 dX5_readBoth_35 ?_
          refine q_callV1 zm_RX5_176 dX5_readBoth_36 hr.1 (by decide) rfl (Nat.le_of_ble_eq_true rfl) (Nat.le_of_ble_eq_true rfl) (Nat.le_of_ble_eq_true rfl) (Nat.le_of_ble_eq_true rfl) (Nat.le_of_ble_eq_true rfl) (s_X5_readUnit_4 (lm := lm) (u := u + c.length) G hr kw ko htpn t31 hx (by rw [o31.2.2 10 (by decide), ofr.2.2 10 (by decide)]; exact hol) (by rw [o31.2.2 9 (by decide)]; exact hok.1) (by omega) (fun rs vs gs os as bs => ?_))
          have as2 : ((unP B n (if lm = 5 then 8 else 6) 4) (nxP B n ps)).1 = 0 → rs.toInt = 1 ∧ tkR ca B n gs vs A ((unP B n (if lm = 5 then 8 else 6) 4) (nxP B n ps)).2.1 ∧ okR g31 gs A (u + c.length) ((unP B n (if lm = 5 then 8 else 6) 4) (nxP B n ps)).2.2 := as
          have bs2 : ((unP B n (if lm = 5 then 8 else 6) 4) (nxP B n ps)).1 ≠ 0 → rs.toInt = 0 ∧ flR gs A ((unP B n (if lm = 5 then 8 else 6) 4) (nxP B n ps)).1 ((unP B n (if lm = 5 then 8 else 6) 4) (nxP B n ps)).2.1 := bs
          have ofs : frM A [8] [2, 3, 4, 5, 9, 11, 12] f gs := frM_tr ofr (frM_tr (frM_su o31 (by decide) (by decide)) os)
          obtain ⟨cs, ts, ks⟩ := as2 hq
          refine t_ifne (t := 44) dX5_readBoth_39 (by decide) (fun h39 => ?_) (fun h39 => False.elim (by omega))
          refine r_aloadR0 dX5_readBoth_44 ?_
          refine n_sipush dX5_readBoth_45 (by decide) (fun r45 e45 => ?_)
          refine q_callV1 zm_RX5_173 dX5_readBoth_48 hr.1 (by decide) rfl (Nat.le_of_ble_eq_true rfl) (Nat.le_of_ble_eq_true rfl) (Nat.le_of_ble_eq_true rfl) (Nat.le_of_ble_eq_true rfl) (Nat.le_of_ble_eq_true rfl) (s_X5_emit (u := u + c.length + ((unP B n (if lm = 5 then 8 else 6) 4) (nxP B n ps)).2.2.length) G hr ks.1 (by omega) (fun g48 o48 a48 b48 c48 => ?_))
          refine n_iinc2 dX5_readBoth_51 (by decide) rfl (by omega) (fun r51 e51 => ?_)
          refine r_goto (t := 12) dX5_readBoth_54 (by decide) ?_
          refine ih _ (i + 1) k2_z ((unP B n (if lm = 5 then 8 else 6) 4) (nxP B n ps)).2.1 (c ++ ((unP B n (if lm = 5 then 8 else 6) 4) (nxP B n ps)).2.2 ++ [(opA B n) ps]) g48 _ (by omega) (frM_tr ofs (frM_su o48 (by decide) (by decide))) (tkR_of ts o48 (by decide) (by decide) (by decide) (by decide)) (okR_ap (okR_ap hok (okR_cg ks wn rfl rfl)) ?_) (by omega) y2 ?_ (by omega) ?_ (by omega)
          · rw [List.length_append, ← Nat.add_assoc, hop]
            exact okR_one a48 b48 c48 (by omega)
          · rw [List.length_append, List.length_append, List.length_singleton]
            omega
          · exact (lpP_on (r := (0, ps, c)) rfl hop0 hq).symm.trans hR
        · have hv : ((unP B n (if lm = 5 then 8 else 6) 4) (nxP B n ps)) = chP B n (unP B n (if lm = 5 then 8 else 6) 4) (opA B n) p := (lpP_sub (k := k2_z) (r := (0, ps, c)) rfl hop0 hq).symm.trans hR
          refine r_iload2 dX5_readBoth_12 ?_
          refine r_aloadR0 dX5_readBoth_13 ?_
          refine m_getV (x := (f2_z A 1)) zf_RX5_15 rfl dX5_readBoth_14 hr.1 (rfl) ?_
          refine t_icge (t := 57) dX5_readBoth_17 (by decide) (fun h17 => False.elim (by omega)) (fun h17 => ?_)
          refine r_aloadR0 dX5_readBoth_20 ?_
          refine k_gets (ko.2.1 ("AND", 7) (List.mem_of_getElem? (i := 7) rfl)) zg_RX5_179 dX5_readBoth_21 ?_
          refine q_callV1 zm_RX5_170 dX5_readBoth_24 hr.1 (by decide) rfl (Nat.le_of_ble_eq_true rfl) (Nat.le_of_ble_eq_true rfl) (Nat.le_of_ble_eq_true rfl) (Nat.le_of_ble_eq_true rfl) (Nat.le_of_ble_eq_true rfl) (s_X5_isWord (i := 7) G hr kw ko (by decide) htk2 (fun r24 e24_z => ?_))
          have e24b : r24.toInt = 1 := e24_z.elim (fun h_z => h_z.1) (fun h_z => absurd hc_z h_z.2)
          refine t_ifeq (t := 57) dX5_readBoth_27 (by decide) (fun h27 => False.elim (by omega)) (fun h27 => ?_)
          refine r_aloadR0 dX5_readBoth_30 ?_
          refine q_callV0 zm_RX5_73 dX5_readBoth_31 hr.1 (by decide) rfl (Nat.le_of_ble_eq_true rfl) (Nat.le_of_ble_eq_true rfl) (Nat.le_of_ble_eq_true rfl) (Nat.le_of_ble_eq_true rfl) (Nat.le_of_ble_eq_true rfl) (s_X5_next (p := teP B n ps) G hr kw ko htp2 htk2.2.1 (teP_le htk2.1) htk2.2.2.2.2.2.2 (fun v31 g31 o31 t31 => ?_))
          have t31 : tkR ca B n g31 v31 A (nxP B n ps) := t31
          have htpn := tpR_of htp2 ht o31 (by decide)
          have wn : g31 (A + 8) = f2_z (A + 8) := o31.2.1 8 (by decide) (by decide) (by decide)
          refine r_aloadR0 dX5_readBoth_34 ?_
          refine r_iload1 dX5_readBoth_35 ?_
          refine q_callV1 zm_RX5_176 dX5_readBoth_36 hr.1 (by decide) rfl (Nat.le_of_ble_eq_true rfl) (Nat.le_of_ble_eq_true rfl) (Nat.le_of_ble_eq_true rfl) (Nat.le_of_ble_eq_true rfl) (Nat.le_of_ble_eq_true rfl) (s_X5_readUnit_4 (lm := lm) (u := u + c.length) G hr kw ko htpn t31 hx (by rw [o31.2.2 10 (by decide), ofr.2.2 10 (by decide)]; exact hol) (by rw [o31.2.2 9 (by decide)]; exact hok.1) (by omega) (fun rs vs gs os as bs => ?_))
          have as2 : ((unP B n (if lm = 5 then 8 else 6) 4) (nxP B n ps)).1 = 0 → rs.toInt = 1 ∧ tkR ca B n gs vs A ((unP B n (if lm = 5 then 8 else 6) 4) (nxP B n ps)).2.1 ∧ okR g31 gs A (u + c.length) ((unP B n (if lm = 5 then 8 else 6) 4) (nxP B n ps)).2.2 := as
          have bs2 : ((unP B n (if lm = 5 then 8 else 6) 4) (nxP B n ps)).1 ≠ 0 → rs.toInt = 0 ∧ flR gs A ((unP B n (if lm = 5 then 8 else 6) 4) (nxP B n ps)).1 ((unP B n (if lm = 5 then 8 else 6) 4) (nxP B n ps)).2.1 := bs
          have ofs : frM A [8] [2, 3, 4, 5, 9, 11, 12] f gs := frM_tr ofr (frM_tr (frM_su o31 (by decide) (by decide)) os)
          obtain ⟨cs, ls⟩ := bs2 hq
          refine t_ifne (t := 44) dX5_readBoth_39 (by decide) (fun h39 => False.elim (by omega)) (fun h39 => ?_)
          refine n_iconst dX5_readBoth_42 (by decide) (fun r42 e42_z => ?_)
          refine m_zret dX5_readBoth_43 rfl (by omega) (Nat.le_of_ble_eq_true rfl) (Nat.le_of_ble_eq_true rfl) ?_
          rw [← hv] at hQ
          exact hQ _ _ gs ofs (fun h_z => absurd h_z hq) (fun _ => ⟨e42_z, ls⟩)
      have hop : (opA B n) ps = 0 := if_neg hc_z
      have hv := (lpP_end (B := B) (n := n) (k := k) (sub := (unP B n (if lm = 5 then 8 else 6) 4)) (r := (0, ps, c)) hop).symm.trans hR
      refine r_iload2 dX5_readBoth_12 ?_
      refine r_aloadR0 dX5_readBoth_13 ?_
      refine m_getV (x := (f2_z A 1)) zf_RX5_15 rfl dX5_readBoth_14 hr.1 (rfl) ?_
      refine t_icge (t := 57) dX5_readBoth_17 (by decide) (fun h17 => False.elim (by omega)) (fun h17 => ?_)
      refine r_aloadR0 dX5_readBoth_20 ?_
      refine k_gets (ko.2.1 ("AND", 7) (List.mem_of_getElem? (i := 7) rfl)) zg_RX5_179 dX5_readBoth_21 ?_
      refine q_callV1 zm_RX5_170 dX5_readBoth_24 hr.1 (by decide) rfl (Nat.le_of_ble_eq_true rfl) (Nat.le_of_ble_eq_true rfl) (Nat.le_of_ble_eq_true rfl) (Nat.le_of_ble_eq_true rfl) (Nat.le_of_ble_eq_true rfl) (s_X5_isWord (i := 7) G hr kw ko (by decide) htk2 (fun r24 e24_z => ?_))
      have e24b : r24.toInt = 0 := e24_z.elim (fun h_z => absurd h_z.2 hc_z) (fun h_z => h_z.1)
      refine t_ifeq (t := 57) dX5_readBoth_27 (by decide) (fun h27 => ?_) (fun h27 => False.elim (by omega))
      refine n_iconst dX5_readBoth_57 (by decide) (fun r57 e57 => ?_)
      refine m_zret dX5_readBoth_58 rfl (by omega) (Nat.le_of_ble_eq_true rfl) (Nat.le_of_ble_eq_true rfl) ?_
      rw [← hv] at hQ
      exact hQ _ _ f2_z ofr (fun _ => ⟨e57, htk2, hok⟩) (fun h_z => absurd rfl h_z)
  have gp := hgd p hpn
  by_cases hq : ((unP B n (if lm = 5 then 8 else 6) 4) p).1 = 0
  · obtain ⟨y1, y2, y3, y4⟩ := gp.1 hq
    have hz : ((unP B n (if lm = 5 then 8 else 6) 4) p) = (0, ((unP B n (if lm = 5 then 8 else 6) 4) p).2.1, ((unP B n (if lm = 5 then 8 else 6) 4) p).2.2) := Prod.ext hq rfl
    refine r_aloadR0 dX5_readBoth_0 ?_
    refine r_iload1 dX5_readBoth_1 ?_
    refine q_callV1 zm_RX5_176 dX5_readBoth_2 hr.1 (by decide) rfl (Nat.le_of_ble_eq_true rfl) (Nat.le_of_ble_eq_true rfl) (Nat.le_of_ble_eq_true rfl) (Nat.le_of_ble_eq_true rfl) (Nat.le_of_ble_eq_true rfl) (s_X5_readUnit_4 G hr kw ko htp htk hx hol hu hup (fun r2 v2 g2 o2 a2 b2 => ?_))
    have a2b : ((unP B n (if lm = 5 then 8 else 6) 4) p).1 = 0 → r2.toInt = 1 ∧ tkR ca B n g2 v2 A ((unP B n (if lm = 5 then 8 else 6) 4) p).2.1 ∧ okR f g2 A u ((unP B n (if lm = 5 then 8 else 6) 4) p).2.2 := a2
    have b2b : ((unP B n (if lm = 5 then 8 else 6) 4) p).1 ≠ 0 → r2.toInt = 0 ∧ flR g2 A ((unP B n (if lm = 5 then 8 else 6) 4) p).1 ((unP B n (if lm = 5 then 8 else 6) 4) p).2.1 := b2
    obtain ⟨c2_z, t2, k2_z⟩ := a2b hq
    refine t_ifne (t := 10) dX5_readBoth_5 (by decide) (fun h5 => ?_) (fun h5 => False.elim (by omega))
    refine n_iconst dX5_readBoth_10 (by decide) (fun r10 e10_z => ?_)
    refine r_istore2 dX5_readBoth_11 rfl ?_
    exact lp (n + 1) _ 0 n ((unP B n (if lm = 5 then 8 else 6) 4) p).2.1 ((unP B n (if lm = 5 then 8 else 6) 4) p).2.2 g2 _ (by omega) o2 t2 k2_z (by omega) y2 y3 (by omega) (by rw [← hz]; rfl) (Nat.lt_succ_self n)
  · have hv : chP B n (unP B n (if lm = 5 then 8 else 6) 4) (opA B n) p = ((unP B n (if lm = 5 then 8 else 6) 4) p) := lpP_bad hq
    rw [hv] at hQ
    refine r_aloadR0 dX5_readBoth_0 ?_
    refine r_iload1 dX5_readBoth_1 ?_
    refine q_callV1 zm_RX5_176 dX5_readBoth_2 hr.1 (by decide) rfl (Nat.le_of_ble_eq_true rfl) (Nat.le_of_ble_eq_true rfl) (Nat.le_of_ble_eq_true rfl) (Nat.le_of_ble_eq_true rfl) (Nat.le_of_ble_eq_true rfl) (s_X5_readUnit_4 G hr kw ko htp htk hx hol hu hup (fun r2 v2 g2 o2 a2 b2 => ?_))
    have a2b : ((unP B n (if lm = 5 then 8 else 6) 4) p).1 = 0 → r2.toInt = 1 ∧ tkR ca B n g2 v2 A ((unP B n (if lm = 5 then 8 else 6) 4) p).2.1 ∧ okR f g2 A u ((unP B n (if lm = 5 then 8 else 6) 4) p).2.2 := a2
    have b2b : ((unP B n (if lm = 5 then 8 else 6) 4) p).1 ≠ 0 → r2.toInt = 0 ∧ flR g2 A ((unP B n (if lm = 5 then 8 else 6) 4) p).1 ((unP B n (if lm = 5 then 8 else 6) 4) p).2.1 := b2
    obtain ⟨c2_z, l2⟩ := b2b hq
    refine t_ifne (t := 10) dX5_readBoth_5 (by decide) (fun h5 => False.elim (by omega)) (fun h5 => ?_)
    refine n_iconst dX5_readBoth_8 (by decide) (fun r8 e8 => ?_)
    refine m_zret dX5_readBoth_9 rfl (by omega) (Nat.le_of_ble_eq_true rfl) (Nat.le_of_ble_eq_true rfl) ?_
    exact hQ _ _ g2 o2 (fun h_z => absurd h_z hq) (fun _ => ⟨e8, l2⟩)
set_option maxHeartbeats 4000000 in
set_option maxRecDepth 100000 in
theorem s_X5_readTruth_4 {g : zGT} {w : zW} {f : Nat → Nat → Int32} {j : Nat → Nat → Int64} {A tq nq : Nat} {v : Option Nat} {B : Nat → Nat} {n : Nat} {ca wa wv : Nat → Nat} {kq ta sm gq gv : Nat} {p lm u : Nat} {x : Int32} {Q : Option Value → zW → Prop} {QX : String → zW → Prop} (G : zGok g) (hr : shRd w A tq nq) (kw : kWd g wa wv kq) (ko : kWo g ca wa wv ta sm gq gv) (htp : tpR B n f A tq) (htk : tkR ca B n f v A p) (hx : x.toInt = 2) (hol : (f A 10).toInt = if lm = 5 then 1 else 0) (hu : (f A 9).toInt = (u : Nat)) (hup : u ≤ p) (hQ : ∀ (b : Int32) v2 f2_z, frM A [8] [2, 3, 4, 5, 9, 11, 12] f f2_z → ((chP B n (chP B n (unP B n (if lm = 5 then 8 else 6) 4) (opA B n)) (opO B n) p).1 = 0 → b.toInt = 1 ∧ tkR ca B n f2_z v2 A (chP B n (chP B n (unP B n (if lm = 5 then 8 else 6) 4) (opA B n)) (opO B n) p).2.1 ∧ okR f f2_z A u (chP B n (chP B n (unP B n (if lm = 5 then 8 else 6) 4) (opA B n)) (opO B n) p).2.2) → ((chP B n (chP B n (unP B n (if lm = 5 then 8 else 6) 4) (opA B n)) (opO B n) p).1 ≠ 0 → b.toInt = 0 ∧ flR f2_z A (chP B n (chP B n (unP B n (if lm = 5 then 8 else 6) 4) (opA B n)) (opO B n) p).1 (chP B n (chP B n (unP B n (if lm = 5 then 8 else 6) 4) (opA B n)) (opO B n) p).2.1) → Q (some (.int b)) (zM (wW w A v2) f2_z j)) : zC g 58 yX5_readTruth cX5_readTruth 3 (some .boolean) [.ref A, .int x] (zM (wW w A v) f j) (0, 0) Q QX := by
  refine zC_of G (by decide +kernel) (Nat.le_of_ble_eq_true rfl) ?_
  have ht := hr.2.2.2.2.2.2
  have h4 := htk.2.2.2.1
  have hpn := htk.1
  have h900 := htp.2.1
  have hgd : ∀ s, s ≤ n → gdP n true (if lm = 5 then 8 else 6) (4 + 2 * 4 + 1) s ((chP B n (unP B n (if lm = 5 then 8 else 6) 4) (opA B n)) s) := fun s hs9 => gd_ch (gd_un (by split <;> decide) 4) hop_A hs9
  have lp : ∀ (mz : Nat) (uu : Int32) (i : Nat) (k : Nat) (ps : Nat) (c : List Nat) (f2_z : Nat → Nat → Int32) (vv : Option Nat), uu.toInt = (i : Nat) → frM A [8] [2, 3, 4, 5, 9, 11, 12] f f2_z → tkR ca B n f2_z vv A ps → okR f f2_z A u c → p + i < ps → ps ≤ n → c.length + p ≤ ps → n ≤ k + ps → lpP B n (chP B n (unP B n (if lm = 5 then 8 else 6) 4) (opA B n)) (opO B n) k (0, ps, c) = chP B n (chP B n (unP B n (if lm = 5 then 8 else 6) 4) (opA B n)) (opO B n) p → k < mz → zR (zV g 58 yX5_readTruth 3 (some .boolean) (0, 0) Q QX) cX5_readTruth yX5_readTruth.cls 12 [some (.ref A), some (.int x), some (.int uu)] [] (zM (wW w A vv) f2_z j) (0, 0) := by
    intro mz
    induction mz with
    | zero =>
      intro uu i k ps c f2_z vv hui ofr htk2 hok hpi hps hcl hnk hR hmz
      exact absurd hmz (Nat.not_lt_zero _)
    | succ mz ih =>
      intro uu i k ps c f2_z vv hui ofr htk2 hok hpi hps hcl hnk hR hmz
      have htp2 := tpR_of htp ht ofr (by decide)
      have h1 := htp2.1
      have htk4 := htk2.2.2.2.1
      have hi9 : i < n := by omega
      by_cases hc_z : isWd B n ps 6 = true
      · have hop : (opO B n) ps = 2002 := if_pos hc_z
        have hop0 : (opO B n) ps ≠ 0 := by rw [hop]; decide
        have hln := tk_lt (B := B) (n := n) (s := ps) (by rw [(isWd_tk hc_z).1]; decide)
        obtain ⟨k2_z, rfl⟩ : ∃ k2_z, k = k2_z + 1 := ⟨k - 1, by omega⟩
        have hnx := nxP_gt (B := B) hln
        have gq := hgd _ hnx.2
        by_cases hq : ((chP B n (unP B n (if lm = 5 then 8 else 6) 4) (opA B n)) (nxP B n ps)).1 = 0
        · obtain ⟨y1, y2, y3, y4⟩ := gq.1 hq
          refine r_iload2 dX5_readTruth_12 ?_
          refine r_aloadR0 dX5_readTruth_13 ?_
          refine m_getV (x := (f2_z A 1)) zf_RX5_15 rfl dX5_readTruth_14 hr.1 (rfl) ?_
          refine t_icge (t := 57) dX5_readTruth_17 (by decide) (fun h17 => False.elim (by omega)) (fun h17 => ?_)
          refine r_aloadR0 dX5_readTruth_20 ?_
          refine k_gets (ko.2.1 ("OR", 6) (List.mem_of_getElem? (i := 8) rfl)) zg_RX5_167 dX5_readTruth_21 ?_
          refine q_callV1 zm_RX5_170 dX5_readTruth_24 hr.1 (by decide) rfl (Nat.le_of_ble_eq_true rfl) (Nat.le_of_ble_eq_true rfl) (Nat.le_of_ble_eq_true rfl) (Nat.le_of_ble_eq_true rfl) (Nat.le_of_ble_eq_true rfl) (s_X5_isWord (i := 6) G hr kw ko (by decide) htk2 (fun r24 e24_z => ?_))
          have e24b : r24.toInt = 1 := e24_z.elim (fun h_z => h_z.1) (fun h_z => absurd hc_z h_z.2)
          refine t_ifeq (t := 57) dX5_readTruth_27 (by decide) (fun h27 => False.elim (by omega)) (fun h27 => ?_)
          refine r_aloadR0 dX5_readTruth_30 ?_
          refine q_callV0 zm_RX5_73 dX5_readTruth_31 hr.1 (by decide) rfl (Nat.le_of_ble_eq_true rfl) (Nat.le_of_ble_eq_true rfl) (Nat.le_of_ble_eq_true rfl) (Nat.le_of_ble_eq_true rfl) (Nat.le_of_ble_eq_true rfl) (s_X5_next (p := teP B n ps) G hr kw ko htp2 htk2.2.1 (teP_le htk2.1) htk2.2.2.2.2.2.2 (fun v31 g31 o31 t31 => ?_))
          have t31 : tkR ca B n g31 v31 A (nxP B n ps) := t31
          have htpn := tpR_of htp2 ht o31 (by decide)
          have wn : g31 (A + 8) = f2_z (A + 8) := o31.2.1 8 (by decide) (by decide) (by decide)
          refine r_aloadR0 dX5_readTruth_34 ?_
          refine r_iload1 dX5_readTruth_35 ?_
          refine q_callV1 zm_RX5_164 dX5_readTruth_36 hr.1 (by decide) rfl (Nat.le_of_ble_eq_true rfl) (Nat.le_of_ble_eq_true rfl) (Nat.le_of_ble_eq_true rfl) (Nat.le_of_ble_eq_true rfl) (Nat.le_of_ble_eq_true rfl) (s_X5_readBoth_4 (lm := lm) (u := u + c.length) G hr kw ko htpn t31 hx (by rw [o31.2.2 10 (by decide), ofr.2.2 10 (by decide)]; exact hol) (by rw [o31.2.2 9 (by decide)]; exact hok.1) (by omega) (fun rs vs gs os as bs => ?_))
          have as2 : ((chP B n (unP B n (if lm = 5 then 8 else 6) 4) (opA B n)) (nxP B n ps)).1 = 0 → rs.toInt = 1 ∧ tkR ca B n gs vs A ((chP B n (unP B n (if lm = 5 then 8 else 6) 4) (opA B n)) (nxP B n ps)).2.1 ∧ okR g31 gs A (u + c.length) ((chP B n (unP B n (if lm = 5 then 8 else 6) 4) (opA B n)) (nxP B n ps)).2.2 := as
          have bs2 : ((chP B n (unP B n (if lm = 5 then 8 else 6) 4) (opA B n)) (nxP B n ps)).1 ≠ 0 → rs.toInt = 0 ∧ flR gs A ((chP B n (unP B n (if lm = 5 then 8 else 6) 4) (opA B n)) (nxP B n ps)).1 ((chP B n (unP B n (if lm = 5 then 8 else 6) 4) (opA B n)) (nxP B n ps)).2.1 := bs
          have ofs : frM A [8] [2, 3, 4, 5, 9, 11, 12] f gs := frM_tr ofr (frM_tr (frM_su o31 (by decide) (by decide)) os)
          obtain ⟨cs, ts, ks⟩ := as2 hq
          refine t_ifne (t := 44) dX5_readTruth_39 (by decide) (fun h39 => ?_) (fun h39 => False.elim (by omega))
          refine r_aloadR0 dX5_readTruth_44 ?_
          refine n_sipush dX5_readTruth_45 (by decide) (fun r45 e45 => ?_)
          refine q_callV1 zm_RX5_173 dX5_readTruth_48 hr.1 (by decide) rfl (Nat.le_of_ble_eq_true rfl) (Nat.le_of_ble_eq_true rfl) (Nat.le_of_ble_eq_true rfl) (Nat.le_of_ble_eq_true rfl) (Nat.le_of_ble_eq_true rfl) (s_X5_emit (u := u + c.length + ((chP B n (unP B n (if lm = 5 then 8 else 6) 4) (opA B n)) (nxP B n ps)).2.2.length) G hr ks.1 (by omega) (fun g48 o48 a48 b48 c48 => ?_))
          refine n_iinc2 dX5_readTruth_51 (by decide) rfl (by omega) (fun r51 e51 => ?_)
          refine r_goto (t := 12) dX5_readTruth_54 (by decide) ?_
          refine ih _ (i + 1) k2_z ((chP B n (unP B n (if lm = 5 then 8 else 6) 4) (opA B n)) (nxP B n ps)).2.1 (c ++ ((chP B n (unP B n (if lm = 5 then 8 else 6) 4) (opA B n)) (nxP B n ps)).2.2 ++ [(opO B n) ps]) g48 _ (by omega) (frM_tr ofs (frM_su o48 (by decide) (by decide))) (tkR_of ts o48 (by decide) (by decide) (by decide) (by decide)) (okR_ap (okR_ap hok (okR_cg ks wn rfl rfl)) ?_) (by omega) y2 ?_ (by omega) ?_ (by omega)
          · rw [List.length_append, ← Nat.add_assoc, hop]
            exact okR_one a48 b48 c48 (by omega)
          · rw [List.length_append, List.length_append, List.length_singleton]
            omega
          · exact (lpP_on (r := (0, ps, c)) rfl hop0 hq).symm.trans hR
        · have hv : ((chP B n (unP B n (if lm = 5 then 8 else 6) 4) (opA B n)) (nxP B n ps)) = chP B n (chP B n (unP B n (if lm = 5 then 8 else 6) 4) (opA B n)) (opO B n) p := (lpP_sub (k := k2_z) (r := (0, ps, c)) rfl hop0 hq).symm.trans hR
          refine r_iload2 dX5_readTruth_12 ?_
          refine r_aloadR0 dX5_readTruth_13 ?_
          refine m_getV (x := (f2_z A 1)) zf_RX5_15 rfl dX5_readTruth_14 hr.1 (rfl) ?_
          refine t_icge (t := 57) dX5_readTruth_17 (by decide) (fun h17 => False.elim (by omega)) (fun h17 => ?_)
          refine r_aloadR0 dX5_readTruth_20 ?_
          refine k_gets (ko.2.1 ("OR", 6) (List.mem_of_getElem? (i := 8) rfl)) zg_RX5_167 dX5_readTruth_21 ?_
          refine q_callV1 zm_RX5_170 dX5_readTruth_24 hr.1 (by decide) rfl (Nat.le_of_ble_eq_true rfl) (Nat.le_of_ble_eq_true rfl) (Nat.le_of_ble_eq_true rfl) (Nat.le_of_ble_eq_true rfl) (Nat.le_of_ble_eq_true rfl) (s_X5_isWord (i := 6) G hr kw ko (by decide) htk2 (fun r24 e24_z => ?_))
          have e24b : r24.toInt = 1 := e24_z.elim (fun h_z => h_z.1) (fun h_z => absurd hc_z h_z.2)
          refine t_ifeq (t := 57) dX5_readTruth_27 (by decide) (fun h27 => False.elim (by omega)) (fun h27 => ?_)
          refine r_aloadR0 dX5_readTruth_30 ?_
          refine q_callV0 zm_RX5_73 dX5_readTruth_31 hr.1 (by decide) rfl (Nat.le_of_ble_eq_true rfl) (Nat.le_of_ble_eq_true rfl) (Nat.le_of_ble_eq_true rfl) (Nat.le_of_ble_eq_true rfl) (Nat.le_of_ble_eq_true rfl) (s_X5_next (p := teP B n ps) G hr kw ko htp2 htk2.2.1 (teP_le htk2.1) htk2.2.2.2.2.2.2 (fun v31 g31 o31 t31 => ?_))
          have t31 : tkR ca B n g31 v31 A (nxP B n ps) := t31
          have htpn := tpR_of htp2 ht o31 (by decide)
          have wn : g31 (A + 8) = f2_z (A + 8) := o31.2.1 8 (by decide) (by decide) (by decide)
          refine r_aloadR0 dX5_readTruth_34 ?_
          refine r_iload1 dX5_readTruth_35 ?_
          refine q_callV1 zm_RX5_164 dX5_readTruth_36 hr.1 (by decide) rfl (Nat.le_of_ble_eq_true rfl) (Nat.le_of_ble_eq_true rfl) (Nat.le_of_ble_eq_true rfl) (Nat.le_of_ble_eq_true rfl) (Nat.le_of_ble_eq_true rfl) (s_X5_readBoth_4 (lm := lm) (u := u + c.length) G hr kw ko htpn t31 hx (by rw [o31.2.2 10 (by decide), ofr.2.2 10 (by decide)]; exact hol) (by rw [o31.2.2 9 (by decide)]; exact hok.1) (by omega) (fun rs vs gs os as bs => ?_))
          have as2 : ((chP B n (unP B n (if lm = 5 then 8 else 6) 4) (opA B n)) (nxP B n ps)).1 = 0 → rs.toInt = 1 ∧ tkR ca B n gs vs A ((chP B n (unP B n (if lm = 5 then 8 else 6) 4) (opA B n)) (nxP B n ps)).2.1 ∧ okR g31 gs A (u + c.length) ((chP B n (unP B n (if lm = 5 then 8 else 6) 4) (opA B n)) (nxP B n ps)).2.2 := as
          have bs2 : ((chP B n (unP B n (if lm = 5 then 8 else 6) 4) (opA B n)) (nxP B n ps)).1 ≠ 0 → rs.toInt = 0 ∧ flR gs A ((chP B n (unP B n (if lm = 5 then 8 else 6) 4) (opA B n)) (nxP B n ps)).1 ((chP B n (unP B n (if lm = 5 then 8 else 6) 4) (opA B n)) (nxP B n ps)).2.1 := bs
          have ofs : frM A [8] [2, 3, 4, 5, 9, 11, 12] f gs := frM_tr ofr (frM_tr (frM_su o31 (by decide) (by decide)) os)
          obtain ⟨cs, ls⟩ := bs2 hq
          refine t_ifne (t := 44) dX5_readTruth_39 (by decide) (fun h39 => False.elim (by omega)) (fun h39 => ?_)
          refine n_iconst dX5_readTruth_42 (by decide) (fun r42 e42_z => ?_)
          refine m_zret dX5_readTruth_43 rfl (by omega) (Nat.le_of_ble_eq_true rfl) (Nat.le_of_ble_eq_true rfl) ?_
          rw [← hv] at hQ
          exact hQ _ _ gs ofs (fun h_z => absurd h_z hq) (fun _ => ⟨e42_z, ls⟩)
      have hop : (opO B n) ps = 0 := if_neg hc_z
      have hv := (lpP_end (B := B) (n := n) (k := k) (sub := (chP B n (unP B n (if lm = 5 then 8 else 6) 4) (opA B n))) (r := (0, ps, c)) hop).symm.trans hR
      refine r_iload2 dX5_readTruth_12 ?_
      refine r_aloadR0 dX5_readTruth_13 ?_
      refine m_getV (x := (f2_z A 1)) zf_RX5_15 rfl dX5_readTruth_14 hr.1 (rfl) ?_
      refine t_icge (t := 57) dX5_readTruth_17 (by decide) (fun h17 => False.elim (by omega)) (fun h17 => ?_)
      refine r_aloadR0 dX5_readTruth_20 ?_
      refine k_gets (ko.2.1 ("OR", 6) (List.mem_of_getElem? (i := 8) rfl)) zg_RX5_167 dX5_readTruth_21 ?_
      refine q_callV1 zm_RX5_170 dX5_readTruth_24 hr.1 (by decide) rfl (Nat.le_of_ble_eq_true rfl) (Nat.le_of_ble_eq_true rfl) (Nat.le_of_ble_eq_true rfl) (Nat.le_of_ble_eq_true rfl) (Nat.le_of_ble_eq_true rfl) (s_X5_isWord (i := 6) G hr kw ko (by decide) htk2 (fun r24 e24_z => ?_))
      have e24b : r24.toInt = 0 := e24_z.elim (fun h_z => absurd h_z.2 hc_z) (fun h_z => h_z.1)
      refine t_ifeq (t := 57) dX5_readTruth_27 (by decide) (fun h27 => ?_) (fun h27 => False.elim (by omega))
      refine n_iconst dX5_readTruth_57 (by decide) (fun r57 e57 => ?_)
      refine m_zret dX5_readTruth_58 rfl (by omega) (Nat.le_of_ble_eq_true rfl) (Nat.le_of_ble_eq_true rfl) ?_
      rw [← hv] at hQ
      exact hQ _ _ f2_z ofr (fun _ => ⟨e57, htk2, hok⟩) (fun h_z => absurd rfl h_z)
  have gp := hgd p hpn
  by_cases hq : ((chP B n (unP B n (if lm = 5 then 8 else 6) 4) (opA B n)) p).1 = 0
  · obtain ⟨y1, y2, y3, y4⟩ := gp.1 hq
    have hz : ((chP B n (unP B n (if lm = 5 then 8 else 6) 4) (opA B n)) p) = (0, ((chP B n (unP B n (if lm = 5 then 8 else 6) 4) (opA B n)) p).2.1, ((chP B n (unP B n (if lm = 5 then 8 else 6) 4) (opA B n)) p).2.2) := Prod.ext hq rfl
    refine r_aloadR0 dX5_readTruth_0 ?_
    refine r_iload1 dX5_readTruth_1 ?_
    refine q_callV1 zm_RX5_164 dX5_readTruth_2 hr.1 (by decide) rfl (Nat.le_of_ble_eq_true rfl) (Nat.le_of_ble_eq_true rfl) (Nat.le_of_ble_eq_true rfl) (Nat.le_of_ble_eq_true rfl) (Nat.le_of_ble_eq_true rfl) (s_X5_readBoth_4 G hr kw ko htp htk hx hol hu hup (fun r2 v2 g2 o2 a2 b2 => ?_))
    have a2b : ((chP B n (unP B n (if lm = 5 then 8 else 6) 4) (opA B n)) p).1 = 0 → r2.toInt = 1 ∧ tkR ca B n g2 v2 A ((chP B n (unP B n (if lm = 5 then 8 else 6) 4) (opA B n)) p).2.1 ∧ okR f g2 A u ((chP B n (unP B n (if lm = 5 then 8 else 6) 4) (opA B n)) p).2.2 := a2
    have b2b : ((chP B n (unP B n (if lm = 5 then 8 else 6) 4) (opA B n)) p).1 ≠ 0 → r2.toInt = 0 ∧ flR g2 A ((chP B n (unP B n (if lm = 5 then 8 else 6) 4) (opA B n)) p).1 ((chP B n (unP B n (if lm = 5 then 8 else 6) 4) (opA B n)) p).2.1 := b2
    obtain ⟨c2_z, t2, k2_z⟩ := a2b hq
    refine t_ifne (t := 10) dX5_readTruth_5 (by decide) (fun h5 => ?_) (fun h5 => False.elim (by omega))
    refine n_iconst dX5_readTruth_10 (by decide) (fun r10 e10_z => ?_)
    refine r_istore2 dX5_readTruth_11 rfl ?_
    exact lp (n + 1) _ 0 n ((chP B n (unP B n (if lm = 5 then 8 else 6) 4) (opA B n)) p).2.1 ((chP B n (unP B n (if lm = 5 then 8 else 6) 4) (opA B n)) p).2.2 g2 _ (by omega) o2 t2 k2_z (by omega) y2 y3 (by omega) (by rw [← hz]; rfl) (Nat.lt_succ_self n)
  · have hv : chP B n (chP B n (unP B n (if lm = 5 then 8 else 6) 4) (opA B n)) (opO B n) p = ((chP B n (unP B n (if lm = 5 then 8 else 6) 4) (opA B n)) p) := lpP_bad hq
    rw [hv] at hQ
    refine r_aloadR0 dX5_readTruth_0 ?_
    refine r_iload1 dX5_readTruth_1 ?_
    refine q_callV1 zm_RX5_164 dX5_readTruth_2 hr.1 (by decide) rfl (Nat.le_of_ble_eq_true rfl) (Nat.le_of_ble_eq_true rfl) (Nat.le_of_ble_eq_true rfl) (Nat.le_of_ble_eq_true rfl) (Nat.le_of_ble_eq_true rfl) (s_X5_readBoth_4 G hr kw ko htp htk hx hol hu hup (fun r2 v2 g2 o2 a2 b2 => ?_))
    have a2b : ((chP B n (unP B n (if lm = 5 then 8 else 6) 4) (opA B n)) p).1 = 0 → r2.toInt = 1 ∧ tkR ca B n g2 v2 A ((chP B n (unP B n (if lm = 5 then 8 else 6) 4) (opA B n)) p).2.1 ∧ okR f g2 A u ((chP B n (unP B n (if lm = 5 then 8 else 6) 4) (opA B n)) p).2.2 := a2
    have b2b : ((chP B n (unP B n (if lm = 5 then 8 else 6) 4) (opA B n)) p).1 ≠ 0 → r2.toInt = 0 ∧ flR g2 A ((chP B n (unP B n (if lm = 5 then 8 else 6) 4) (opA B n)) p).1 ((chP B n (unP B n (if lm = 5 then 8 else 6) 4) (opA B n)) p).2.1 := b2
    obtain ⟨c2_z, l2⟩ := b2b hq
    refine t_ifne (t := 10) dX5_readTruth_5 (by decide) (fun h5 => False.elim (by omega)) (fun h5 => ?_)
    refine n_iconst dX5_readTruth_8 (by decide) (fun r8 e8 => ?_)
    refine m_zret dX5_readTruth_9 rfl (by omega) (Nat.le_of_ble_eq_true rfl) (Nat.le_of_ble_eq_true rfl) ?_
    exact hQ _ _ g2 o2 (fun h_z => absurd h_z hq) (fun _ => ⟨e8, l2⟩)
set_option maxHeartbeats 4000000 in
set_option maxRecDepth 100000 in
theorem s_X5_readUnit_5 {g : zGT} {w : zW} {f : Nat → Nat → Int32} {j : Nat → Nat → Int64} {A tq nq : Nat} {v : Option Nat} {B : Nat → Nat} {n : Nat} {ca wa wv : Nat → Nat} {kq ta sm gq gv : Nat} {p lm u : Nat} {x : Int32} {Q : Option Value → zW → Prop} {QX : String → zW → Prop} (G : zGok g) (hr : shRd w A tq nq) (kw : kWd g wa wv kq) (ko : kWo g ca wa wv ta sm gq gv) (htp : tpR B n f A tq) (htk : tkR ca B n f v A p) (hx : x.toInt = 1) (hol : (f A 10).toInt = if lm = 5 then 1 else 0) (hu : (f A 9).toInt = (u : Nat)) (hup : u ≤ p) (hQ : ∀ (b : Int32) v2 f2_z, frM A [8] [2, 3, 4, 5, 9, 11, 12] f f2_z → ((unP B n (if lm = 5 then 8 else 6) 5 p).1 = 0 → b.toInt = 1 ∧ tkR ca B n f2_z v2 A (unP B n (if lm = 5 then 8 else 6) 5 p).2.1 ∧ okR f f2_z A u (unP B n (if lm = 5 then 8 else 6) 5 p).2.2) → ((unP B n (if lm = 5 then 8 else 6) 5 p).1 ≠ 0 → b.toInt = 0 ∧ flR f2_z A (unP B n (if lm = 5 then 8 else 6) 5 p).1 (unP B n (if lm = 5 then 8 else 6) 5 p).2.1) → Q (some (.int b)) (zM (wW w A v2) f2_z j)) : zC g 60 yX5_readUnit cX5_readUnit 3 (some .boolean) [.ref A, .int x] (zM (wW w A v) f j) (0, 0) Q QX := by
  refine zC_of G (by decide +kernel) (Nat.le_of_ble_eq_true rfl) ?_
  have ht := hr.2.2.2.2.2.2
  have h4 := htk.2.2.2.1
  have hpn := htk.1
  have h900 := htp.2.1
  have hsm : ∀ s, s ≤ n → gdP n false (if lm = 5 then 8 else 6) (1 + 2 * 5 + 2) s (smP B n (if lm = 5 then 8 else 6) 5 s) := fun s hs9 => gd_su (gd_at (by split <;> decide) 5) hs9
  by_cases hw : isWd B n p 8 = true
  · have hv : unP B n (if lm = 5 then 8 else 6) 5 p = noP ((unP B n (if lm = 5 then 8 else 6) 4) (nxP B n p)) := if_pos hw
    rw [hv] at hQ
    have hwt := isWd_tk hw
    have hln := tk_lt (B := B) (n := n) (s := p) (by rw [hwt.1]; decide)
    have hnx := nxP_gt (B := B) hln
    have hgu : gdP n true (if lm = 5 then 8 else 6) (4 + 2 * 4) (nxP B n p) ((unP B n (if lm = 5 then 8 else 6) 4) (nxP B n p)) := gd_un (by split <;> decide) 4 _ hnx.2
    by_cases hq : ((unP B n (if lm = 5 then 8 else 6) 4) (nxP B n p)).1 = 0
    · have hv2 : noP ((unP B n (if lm = 5 then 8 else 6) 4) (nxP B n p)) = (0, ((unP B n (if lm = 5 then 8 else 6) 4) (nxP B n p)).2.1, ((unP B n (if lm = 5 then 8 else 6) 4) (nxP B n p)).2.2 ++ [2000]) := if_neg (not_not_intro hq)
      rw [hv2] at hQ
      obtain ⟨y1, y2, y3, y4⟩ := hgu.1 hq
      refine r_aloadR0 dX5_readUnit_0 ?_
      refine k_gets (ko.2.1 ("NOT", 8) (List.mem_of_getElem? (i := 4) rfl)) zg_RX5_182 dX5_readUnit_1 ?_
      refine q_callV1 zm_RX5_170 dX5_readUnit_4 hr.1 (by decide) rfl (Nat.le_of_ble_eq_true rfl) (Nat.le_of_ble_eq_true rfl) (Nat.le_of_ble_eq_true rfl) (Nat.le_of_ble_eq_true rfl) (Nat.le_of_ble_eq_true rfl) (s_X5_isWord (i := 8) G hr kw ko (by decide) htk (fun r4 e4_z => ?_))
      have e4b : r4.toInt = 1 := e4_z.elim (fun h_z => h_z.1) (fun h_z => absurd hw h_z.2)
      refine t_ifeq (t := 39) dX5_readUnit_7 (by decide) (fun h7 => False.elim (by omega)) (fun h7 => ?_)
      refine r_aloadR0 dX5_readUnit_10 ?_
      refine r_iload1 dX5_readUnit_11 ?_
      refine q_callV1 zm_RX5_185 dX5_readUnit_12 hr.1 (by decide) rfl (Nat.le_of_ble_eq_true rfl) (Nat.le_of_ble_eq_true rfl) (Nat.le_of_ble_eq_true rfl) (Nat.le_of_ble_eq_true rfl) (Nat.le_of_ble_eq_true rfl) (s_X5_goDeeper (d := 1) G hr kw ko htp hx htk (fun rd vd gd od ad bd => ?_))
      obtain ⟨cd, td⟩ := ad (by decide)
      have htpd := tpR_of htp ht od (by decide)
      have wd : gd (A + 8) = f (A + 8) := od.2.1 8 (by decide) (by decide) (by decide)
      refine t_ifeq (t := 28) dX5_readUnit_15 (by decide) (fun h15 => False.elim (by omega)) (fun h15 => ?_)
      refine r_aloadR0 dX5_readUnit_18 ?_
      refine r_iload1 dX5_readUnit_19 ?_
      refine n_iconst dX5_readUnit_20 (by decide) (fun r20 e20 => ?_)
      refine n_iadd dX5_readUnit_21 (by omega) (fun r21 e21_z => ?_)
      refine q_callV1 zm_RX5_176 dX5_readUnit_22 hr.1 (by decide) rfl (Nat.le_of_ble_eq_true rfl) (Nat.le_of_ble_eq_true rfl) (Nat.le_of_ble_eq_true rfl) (Nat.le_of_ble_eq_true rfl) (Nat.le_of_ble_eq_true rfl) (s_X5_readUnit_4 (lm := lm) (u := u) G hr kw ko htpd td (by omega) (by rw [od.2.2 10 (by decide)]; exact hol) (by rw [od.2.2 9 (by decide)]; exact hu) (by omega) (fun rs vs gs os as bs => ?_))
      have as2 : ((unP B n (if lm = 5 then 8 else 6) 4) (nxP B n p)).1 = 0 → rs.toInt = 1 ∧ tkR ca B n gs vs A ((unP B n (if lm = 5 then 8 else 6) 4) (nxP B n p)).2.1 ∧ okR gd gs A u ((unP B n (if lm = 5 then 8 else 6) 4) (nxP B n p)).2.2 := as
      have bs2 : ((unP B n (if lm = 5 then 8 else 6) 4) (nxP B n p)).1 ≠ 0 → rs.toInt = 0 ∧ flR gs A ((unP B n (if lm = 5 then 8 else 6) 4) (nxP B n p)).1 ((unP B n (if lm = 5 then 8 else 6) 4) (nxP B n p)).2.1 := bs
      have ofs : frM A [8] [2, 3, 4, 5, 9, 11, 12] f gs := frM_tr (frM_su od (by decide) (by decide)) os
      obtain ⟨cs, ts, ks⟩ := as2 hq
      refine t_ifne (t := 30) dX5_readUnit_25 (by decide) (fun h25 => ?_) (fun h25 => False.elim (by omega))
      refine r_aloadR0 dX5_readUnit_30 ?_
      refine n_sipush dX5_readUnit_31 (by decide) (fun r31 e31_z => ?_)
      refine q_callV1 zm_RX5_173 dX5_readUnit_34 hr.1 (by decide) rfl (Nat.le_of_ble_eq_true rfl) (Nat.le_of_ble_eq_true rfl) (Nat.le_of_ble_eq_true rfl) (Nat.le_of_ble_eq_true rfl) (Nat.le_of_ble_eq_true rfl) (s_X5_emit (u := u + ((unP B n (if lm = 5 then 8 else 6) 4) (nxP B n p)).2.2.length) G hr ks.1 (by omega) (fun g34 o34 a34 b34 c34 => ?_))
      refine n_iconst dX5_readUnit_37 (by decide) (fun r37 e37 => ?_)
      refine m_zret dX5_readUnit_38 rfl (by omega) (Nat.le_of_ble_eq_true rfl) (Nat.le_of_ble_eq_true rfl) ?_
      exact hQ _ _ g34 (frM_tr ofs (frM_su o34 (by decide) (by decide))) (fun _ => ⟨e37, tkR_of ts o34 (by decide) (by decide) (by decide) (by decide), okR_ap (okR_cg ks wd rfl rfl) (okR_one a34 b34 c34 (by omega))⟩) (fun h_z => absurd rfl h_z)
    · have hv2 : noP ((unP B n (if lm = 5 then 8 else 6) 4) (nxP B n p)) = ((unP B n (if lm = 5 then 8 else 6) 4) (nxP B n p)) := if_pos hq
      rw [hv2] at hQ
      refine r_aloadR0 dX5_readUnit_0 ?_
      refine k_gets (ko.2.1 ("NOT", 8) (List.mem_of_getElem? (i := 4) rfl)) zg_RX5_182 dX5_readUnit_1 ?_
      refine q_callV1 zm_RX5_170 dX5_readUnit_4 hr.1 (by decide) rfl (Nat.le_of_ble_eq_true rfl) (Nat.le_of_ble_eq_true rfl) (Nat.le_of_ble_eq_true rfl) (Nat.le_of_ble_eq_true rfl) (Nat.le_of_ble_eq_true rfl) (s_X5_isWord (i := 8) G hr kw ko (by decide) htk (fun r4 e4_z => ?_))
      have e4b : r4.toInt = 1 := e4_z.elim (fun h_z => h_z.1) (fun h_z => absurd hw h_z.2)
      refine t_ifeq (t := 39) dX5_readUnit_7 (by decide) (fun h7 => False.elim (by omega)) (fun h7 => ?_)
      refine r_aloadR0 dX5_readUnit_10 ?_
      refine r_iload1 dX5_readUnit_11 ?_
      refine q_callV1 zm_RX5_185 dX5_readUnit_12 hr.1 (by decide) rfl (Nat.le_of_ble_eq_true rfl) (Nat.le_of_ble_eq_true rfl) (Nat.le_of_ble_eq_true rfl) (Nat.le_of_ble_eq_true rfl) (Nat.le_of_ble_eq_true rfl) (s_X5_goDeeper (d := 1) G hr kw ko htp hx htk (fun rd vd gd od ad bd => ?_))
      obtain ⟨cd, td⟩ := ad (by decide)
      have htpd := tpR_of htp ht od (by decide)
      have wd : gd (A + 8) = f (A + 8) := od.2.1 8 (by decide) (by decide) (by decide)
      refine t_ifeq (t := 28) dX5_readUnit_15 (by decide) (fun h15 => False.elim (by omega)) (fun h15 => ?_)
      refine r_aloadR0 dX5_readUnit_18 ?_
      refine r_iload1 dX5_readUnit_19 ?_
      refine n_iconst dX5_readUnit_20 (by decide) (fun r20 e20 => ?_)
      refine n_iadd dX5_readUnit_21 (by omega) (fun r21 e21_z => ?_)
      refine q_callV1 zm_RX5_176 dX5_readUnit_22 hr.1 (by decide) rfl (Nat.le_of_ble_eq_true rfl) (Nat.le_of_ble_eq_true rfl) (Nat.le_of_ble_eq_true rfl) (Nat.le_of_ble_eq_true rfl) (Nat.le_of_ble_eq_true rfl) (s_X5_readUnit_4 (lm := lm) (u := u) G hr kw ko htpd td (by omega) (by rw [od.2.2 10 (by decide)]; exact hol) (by rw [od.2.2 9 (by decide)]; exact hu) (by omega) (fun rs vs gs os as bs => ?_))
      have as2 : ((unP B n (if lm = 5 then 8 else 6) 4) (nxP B n p)).1 = 0 → rs.toInt = 1 ∧ tkR ca B n gs vs A ((unP B n (if lm = 5 then 8 else 6) 4) (nxP B n p)).2.1 ∧ okR gd gs A u ((unP B n (if lm = 5 then 8 else 6) 4) (nxP B n p)).2.2 := as
      have bs2 : ((unP B n (if lm = 5 then 8 else 6) 4) (nxP B n p)).1 ≠ 0 → rs.toInt = 0 ∧ flR gs A ((unP B n (if lm = 5 then 8 else 6) 4) (nxP B n p)).1 ((unP B n (if lm = 5 then 8 else 6) 4) (nxP B n p)).2.1 := bs
      have ofs : frM A [8] [2, 3, 4, 5, 9, 11, 12] f gs := frM_tr (frM_su od (by decide) (by decide)) os
      obtain ⟨cs, ls⟩ := bs2 hq
      refine t_ifne (t := 30) dX5_readUnit_25 (by decide) (fun h25 => False.elim (by omega)) (fun h25 => ?_)
      refine n_iconst dX5_readUnit_28 (by decide) (fun r28 e28_z => ?_)
      refine m_zret dX5_readUnit_29 rfl (by omega) (Nat.le_of_ble_eq_true rfl) (Nat.le_of_ble_eq_true rfl) ?_
      exact hQ _ _ gs ofs (fun h_z => absurd h_z hq) (fun _ => ⟨e28_z, ls⟩)
  by_cases hp : tkP B n p = 91
  · have hv : unP B n (if lm = 5 then 8 else 6) 5 p = clP B n 93 (trU B n (unP B n (if lm = 5 then 8 else 6) 4) (nxP B n p)) := (if_neg hw).trans (if_pos hp)
    rw [hv] at hQ
    have hln := tk_lt (B := B) (n := n) (s := p) (by rw [hp]; decide)
    have hnx := nxP_gt (B := B) hln
    by_cases hq : (trU B n (unP B n (if lm = 5 then 8 else 6) 4) (nxP B n p)).1 = 0
    · by_cases h93 : tkP B n (trU B n (unP B n (if lm = 5 then 8 else 6) 4) (nxP B n p)).2.1 = 93
      · have hv2 : clP B n 93 (trU B n (unP B n (if lm = 5 then 8 else 6) 4) (nxP B n p)) = (0, nxP B n (trU B n (unP B n (if lm = 5 then 8 else 6) 4) (nxP B n p)).2.1, (trU B n (unP B n (if lm = 5 then 8 else 6) 4) (nxP B n p)).2.2) := (if_neg (not_not_intro hq)).trans (if_pos h93)
        rw [hv2] at hQ
        refine r_aloadR0 dX5_readUnit_0 ?_
        refine k_gets (ko.2.1 ("NOT", 8) (List.mem_of_getElem? (i := 4) rfl)) zg_RX5_182 dX5_readUnit_1 ?_
        refine q_callV1 zm_RX5_170 dX5_readUnit_4 hr.1 (by decide) rfl (Nat.le_of_ble_eq_true rfl) (Nat.le_of_ble_eq_true rfl) (Nat.le_of_ble_eq_true rfl) (Nat.le_of_ble_eq_true rfl) (Nat.le_of_ble_eq_true rfl) (s_X5_isWord (i := 8) G hr kw ko (by decide) htk (fun r4 e4_z => ?_))
        have e4b : r4.toInt = 0 := e4_z.elim (fun h_z => absurd h_z.2 hw) (fun h_z => h_z.1)
        refine t_ifeq (t := 39) dX5_readUnit_7 (by decide) (fun h7 => ?_) (fun h7 => False.elim (by omega))
        refine r_aloadR0 dX5_readUnit_39 ?_
        refine m_getV (x := (f A 4)) zf_RX5_25 rfl dX5_readUnit_40 hr.1 (rfl) ?_
        refine n_bipush dX5_readUnit_43 (by decide) (fun r43 e43 => ?_)
        refine t_icne (t := 81) dX5_readUnit_45 (by decide) (fun h45 => False.elim (by omega)) (fun h45 => ?_)
        refine r_aloadR0 dX5_readUnit_48 ?_
        refine r_iload1 dX5_readUnit_49 ?_
        refine q_callV1 zm_RX5_185 dX5_readUnit_50 hr.1 (by decide) rfl (Nat.le_of_ble_eq_true rfl) (Nat.le_of_ble_eq_true rfl) (Nat.le_of_ble_eq_true rfl) (Nat.le_of_ble_eq_true rfl) (Nat.le_of_ble_eq_true rfl) (s_X5_goDeeper (d := 1) G hr kw ko htp hx htk (fun rd vd gd od ad bd => ?_))
        obtain ⟨cd, td⟩ := ad (by decide)
        have htpd := tpR_of htp ht od (by decide)
        have wd : gd (A + 8) = f (A + 8) := od.2.1 8 (by decide) (by decide) (by decide)
        refine t_ifeq (t := 79) dX5_readUnit_53 (by decide) (fun h53 => False.elim (by omega)) (fun h53 => ?_)
        refine r_aloadR0 dX5_readUnit_56 ?_
        refine r_iload1 dX5_readUnit_57 ?_
        refine n_iconst dX5_readUnit_58 (by decide) (fun r58 e58 => ?_)
        refine n_iadd dX5_readUnit_59 (by omega) (fun r59 e59 => ?_)
        refine q_callV1 zm_RX5_143 dX5_readUnit_60 hr.1 (by decide) rfl (Nat.le_of_ble_eq_true rfl) (Nat.le_of_ble_eq_true rfl) (Nat.le_of_ble_eq_true rfl) (Nat.le_of_ble_eq_true rfl) (Nat.le_of_ble_eq_true rfl) (s_X5_readTruth_4 (lm := lm) (u := u) G hr kw ko htpd td (by omega) (by rw [od.2.2 10 (by decide)]; exact hol) (by rw [od.2.2 9 (by decide)]; exact hu) (by omega) (fun rs vs gs os as bs => ?_))
        have as2 : (trU B n (unP B n (if lm = 5 then 8 else 6) 4) (nxP B n p)).1 = 0 → rs.toInt = 1 ∧ tkR ca B n gs vs A (trU B n (unP B n (if lm = 5 then 8 else 6) 4) (nxP B n p)).2.1 ∧ okR gd gs A u (trU B n (unP B n (if lm = 5 then 8 else 6) 4) (nxP B n p)).2.2 := as
        have bs2 : (trU B n (unP B n (if lm = 5 then 8 else 6) 4) (nxP B n p)).1 ≠ 0 → rs.toInt = 0 ∧ flR gs A (trU B n (unP B n (if lm = 5 then 8 else 6) 4) (nxP B n p)).1 (trU B n (unP B n (if lm = 5 then 8 else 6) 4) (nxP B n p)).2.1 := bs
        have ofs : frM A [8] [2, 3, 4, 5, 9, 11, 12] f gs := frM_tr (frM_su od (by decide) (by decide)) os
        obtain ⟨cs, ts, ks⟩ := as2 hq
        refine t_ifeq (t := 79) dX5_readUnit_63 (by decide) (fun h63 => False.elim (by omega)) (fun h63 => ?_)
        refine r_aloadR0 dX5_readUnit_66 ?_
        refine n_bipush dX5_readUnit_67 (by decide) (fun r67 e67 => ?_)
        refine q_callV1 zm_RX5_102 dX5_readUnit_69 hr.1 (by decide) rfl (Nat.le_of_ble_eq_true rfl) (Nat.le_of_ble_eq_true rfl) (Nat.le_of_ble_eq_true rfl) (Nat.le_of_ble_eq_true rfl) (Nat.le_of_ble_eq_true rfl) (s_X5_takeSign (s := (trU B n (unP B n (if lm = 5 then 8 else 6) 4) (nxP B n p)).2.1) (c := 93) G hr kw ko (tpR_of htp ht ofs (by decide)) e67 ts (fun r69 v69 g69 o69 a69 b69 => ?_))
        obtain ⟨c69, t69⟩ := a69 h93
        refine t_ifeq (t := 79) dX5_readUnit_72 (by decide) (fun h72 => False.elim (by omega)) (fun h72 => ?_)
        refine n_iconst dX5_readUnit_75 (by decide) (fun r75 e75 => ?_)
        refine r_goto (t := 80) dX5_readUnit_76 (by decide) ?_
        refine m_zret dX5_readUnit_80 rfl (by omega) (Nat.le_of_ble_eq_true rfl) (Nat.le_of_ble_eq_true rfl) ?_
        exact hQ _ _ g69 (frM_tr ofs (frM_su o69 (by decide) (by decide))) (fun _ => ⟨e75, t69, okR_cg ks wd (o69.2.1 8 (by decide) (by decide) (by decide)) (o69.2.2 9 (by decide))⟩) (fun h_z => absurd rfl h_z)
      · have hv2 : clP B n 93 (trU B n (unP B n (if lm = 5 then 8 else 6) 4) (nxP B n p)) = (baP B n (trU B n (unP B n (if lm = 5 then 8 else 6) 4) (nxP B n p)).2.1, (trU B n (unP B n (if lm = 5 then 8 else 6) 4) (nxP B n p)).2.1, []) := (if_neg (not_not_intro hq)).trans (if_neg h93)
        rw [hv2] at hQ
        refine r_aloadR0 dX5_readUnit_0 ?_
        refine k_gets (ko.2.1 ("NOT", 8) (List.mem_of_getElem? (i := 4) rfl)) zg_RX5_182 dX5_readUnit_1 ?_
        refine q_callV1 zm_RX5_170 dX5_readUnit_4 hr.1 (by decide) rfl (Nat.le_of_ble_eq_true rfl) (Nat.le_of_ble_eq_true rfl) (Nat.le_of_ble_eq_true rfl) (Nat.le_of_ble_eq_true rfl) (Nat.le_of_ble_eq_true rfl) (s_X5_isWord (i := 8) G hr kw ko (by decide) htk (fun r4 e4_z => ?_))
        have e4b : r4.toInt = 0 := e4_z.elim (fun h_z => absurd h_z.2 hw) (fun h_z => h_z.1)
        refine t_ifeq (t := 39) dX5_readUnit_7 (by decide) (fun h7 => ?_) (fun h7 => False.elim (by omega))
        refine r_aloadR0 dX5_readUnit_39 ?_
        refine m_getV (x := (f A 4)) zf_RX5_25 rfl dX5_readUnit_40 hr.1 (rfl) ?_
        refine n_bipush dX5_readUnit_43 (by decide) (fun r43 e43 => ?_)
        refine t_icne (t := 81) dX5_readUnit_45 (by decide) (fun h45 => False.elim (by omega)) (fun h45 => ?_)
        refine r_aloadR0 dX5_readUnit_48 ?_
        refine r_iload1 dX5_readUnit_49 ?_
        refine q_callV1 zm_RX5_185 dX5_readUnit_50 hr.1 (by decide) rfl (Nat.le_of_ble_eq_true rfl) (Nat.le_of_ble_eq_true rfl) (Nat.le_of_ble_eq_true rfl) (Nat.le_of_ble_eq_true rfl) (Nat.le_of_ble_eq_true rfl) (s_X5_goDeeper (d := 1) G hr kw ko htp hx htk (fun rd vd gd od ad bd => ?_))
        obtain ⟨cd, td⟩ := ad (by decide)
        have htpd := tpR_of htp ht od (by decide)
        have wd : gd (A + 8) = f (A + 8) := od.2.1 8 (by decide) (by decide) (by decide)
        refine t_ifeq (t := 79) dX5_readUnit_53 (by decide) (fun h53 => False.elim (by omega)) (fun h53 => ?_)
        refine r_aloadR0 dX5_readUnit_56 ?_
        refine r_iload1 dX5_readUnit_57 ?_
        refine n_iconst dX5_readUnit_58 (by decide) (fun r58 e58 => ?_)
        refine n_iadd dX5_readUnit_59 (by omega) (fun r59 e59 => ?_)
        refine q_callV1 zm_RX5_143 dX5_readUnit_60 hr.1 (by decide) rfl (Nat.le_of_ble_eq_true rfl) (Nat.le_of_ble_eq_true rfl) (Nat.le_of_ble_eq_true rfl) (Nat.le_of_ble_eq_true rfl) (Nat.le_of_ble_eq_true rfl) (s_X5_readTruth_4 (lm := lm) (u := u) G hr kw ko htpd td (by omega) (by rw [od.2.2 10 (by decide)]; exact hol) (by rw [od.2.2 9 (by decide)]; exact hu) (by omega) (fun rs vs gs os as bs => ?_))
        have as2 : (trU B n (unP B n (if lm = 5 then 8 else 6) 4) (nxP B n p)).1 = 0 → rs.toInt = 1 ∧ tkR ca B n gs vs A (trU B n (unP B n (if lm = 5 then 8 else 6) 4) (nxP B n p)).2.1 ∧ okR gd gs A u (trU B n (unP B n (if lm = 5 then 8 else 6) 4) (nxP B n p)).2.2 := as
        have bs2 : (trU B n (unP B n (if lm = 5 then 8 else 6) 4) (nxP B n p)).1 ≠ 0 → rs.toInt = 0 ∧ flR gs A (trU B n (unP B n (if lm = 5 then 8 else 6) 4) (nxP B n p)).1 (trU B n (unP B n (if lm = 5 then 8 else 6) 4) (nxP B n p)).2.1 := bs
        have ofs : frM A [8] [2, 3, 4, 5, 9, 11, 12] f gs := frM_tr (frM_su od (by decide) (by decide)) os
        obtain ⟨cs, ts, ks⟩ := as2 hq
        refine t_ifeq (t := 79) dX5_readUnit_63 (by decide) (fun h63 => False.elim (by omega)) (fun h63 => ?_)
        refine r_aloadR0 dX5_readUnit_66 ?_
        refine n_bipush dX5_readUnit_67 (by decide) (fun r67 e67 => ?_)
        refine q_callV1 zm_RX5_102 dX5_readUnit_69 hr.1 (by decide) rfl (Nat.le_of_ble_eq_true rfl) (Nat.le_of_ble_eq_true rfl) (Nat.le_of_ble_eq_true rfl) (Nat.le_of_ble_eq_true rfl) (Nat.le_of_ble_eq_true rfl) (s_X5_takeSign (s := (trU B n (unP B n (if lm = 5 then 8 else 6) 4) (nxP B n p)).2.1) (c := 93) G hr kw ko (tpR_of htp ht ofs (by decide)) e67 ts (fun r69 v69 g69 o69 a69 b69 => ?_))
        obtain ⟨c69, l69⟩ := b69 h93
        refine t_ifeq (t := 79) dX5_readUnit_72 (by decide) (fun h72 => ?_) (fun h72 => False.elim (by omega))
        refine n_iconst dX5_readUnit_79 (by decide) (fun r79 e79 => ?_)
        refine m_zret dX5_readUnit_80 rfl (by omega) (Nat.le_of_ble_eq_true rfl) (Nat.le_of_ble_eq_true rfl) ?_
        exact hQ _ _ g69 (frM_tr ofs (frM_su o69 (by decide) (by decide))) (fun h_z => absurd h_z ba_bd.1) (fun _ => ⟨e79, l69⟩)
    · have hv2 : clP B n 93 (trU B n (unP B n (if lm = 5 then 8 else 6) 4) (nxP B n p)) = (trU B n (unP B n (if lm = 5 then 8 else 6) 4) (nxP B n p)) := if_pos hq
      rw [hv2] at hQ
      refine r_aloadR0 dX5_readUnit_0 ?_
      refine k_gets (ko.2.1 ("NOT", 8) (List.mem_of_getElem? (i := 4) rfl)) zg_RX5_182 dX5_readUnit_1 ?_
      refine q_callV1 zm_RX5_170 dX5_readUnit_4 hr.1 (by decide) rfl (Nat.le_of_ble_eq_true rfl) (Nat.le_of_ble_eq_true rfl) (Nat.le_of_ble_eq_true rfl) (Nat.le_of_ble_eq_true rfl) (Nat.le_of_ble_eq_true rfl) (s_X5_isWord (i := 8) G hr kw ko (by decide) htk (fun r4 e4_z => ?_))
      have e4b : r4.toInt = 0 := e4_z.elim (fun h_z => absurd h_z.2 hw) (fun h_z => h_z.1)
      refine t_ifeq (t := 39) dX5_readUnit_7 (by decide) (fun h7 => ?_) (fun h7 => False.elim (by omega))
      refine r_aloadR0 dX5_readUnit_39 ?_
      refine m_getV (x := (f A 4)) zf_RX5_25 rfl dX5_readUnit_40 hr.1 (rfl) ?_
      refine n_bipush dX5_readUnit_43 (by decide) (fun r43 e43 => ?_)
      refine t_icne (t := 81) dX5_readUnit_45 (by decide) (fun h45 => False.elim (by omega)) (fun h45 => ?_)
      refine r_aloadR0 dX5_readUnit_48 ?_
      refine r_iload1 dX5_readUnit_49 ?_
      refine q_callV1 zm_RX5_185 dX5_readUnit_50 hr.1 (by decide) rfl (Nat.le_of_ble_eq_true rfl) (Nat.le_of_ble_eq_true rfl) (Nat.le_of_ble_eq_true rfl) (Nat.le_of_ble_eq_true rfl) (Nat.le_of_ble_eq_true rfl) (s_X5_goDeeper (d := 1) G hr kw ko htp hx htk (fun rd vd gd od ad bd => ?_))
      obtain ⟨cd, td⟩ := ad (by decide)
      have htpd := tpR_of htp ht od (by decide)
      have wd : gd (A + 8) = f (A + 8) := od.2.1 8 (by decide) (by decide) (by decide)
      refine t_ifeq (t := 79) dX5_readUnit_53 (by decide) (fun h53 => False.elim (by omega)) (fun h53 => ?_)
      refine r_aloadR0 dX5_readUnit_56 ?_
      refine r_iload1 dX5_readUnit_57 ?_
      refine n_iconst dX5_readUnit_58 (by decide) (fun r58 e58 => ?_)
      refine n_iadd dX5_readUnit_59 (by omega) (fun r59 e59 => ?_)
      refine q_callV1 zm_RX5_143 dX5_readUnit_60 hr.1 (by decide) rfl (Nat.le_of_ble_eq_true rfl) (Nat.le_of_ble_eq_true rfl) (Nat.le_of_ble_eq_true rfl) (Nat.le_of_ble_eq_true rfl) (Nat.le_of_ble_eq_true rfl) (s_X5_readTruth_4 (lm := lm) (u := u) G hr kw ko htpd td (by omega) (by rw [od.2.2 10 (by decide)]; exact hol) (by rw [od.2.2 9 (by decide)]; exact hu) (by omega) (fun rs vs gs os as bs => ?_))
      have as2 : (trU B n (unP B n (if lm = 5 then 8 else 6) 4) (nxP B n p)).1 = 0 → rs.toInt = 1 ∧ tkR ca B n gs vs A (trU B n (unP B n (if lm = 5 then 8 else 6) 4) (nxP B n p)).2.1 ∧ okR gd gs A u (trU B n (unP B n (if lm = 5 then 8 else 6) 4) (nxP B n p)).2.2 := as
      have bs2 : (trU B n (unP B n (if lm = 5 then 8 else 6) 4) (nxP B n p)).1 ≠ 0 → rs.toInt = 0 ∧ flR gs A (trU B n (unP B n (if lm = 5 then 8 else 6) 4) (nxP B n p)).1 (trU B n (unP B n (if lm = 5 then 8 else 6) 4) (nxP B n p)).2.1 := bs
      have ofs : frM A [8] [2, 3, 4, 5, 9, 11, 12] f gs := frM_tr (frM_su od (by decide) (by decide)) os
      obtain ⟨cs, ls⟩ := bs2 hq
      refine t_ifeq (t := 79) dX5_readUnit_63 (by decide) (fun h63 => ?_) (fun h63 => False.elim (by omega))
      refine n_iconst dX5_readUnit_79 (by decide) (fun r79 e79 => ?_)
      refine m_zret dX5_readUnit_80 rfl (by omega) (Nat.le_of_ble_eq_true rfl) (Nat.le_of_ble_eq_true rfl) ?_
      exact hQ _ _ gs ofs (fun h_z => absurd h_z hq) (fun _ => ⟨e79, ls⟩)
  have hv0 : unP B n (if lm = 5 then 8 else 6) 5 p = cmP B n (smP B n (if lm = 5 then 8 else 6) 5) p := (if_neg hw).trans (if_neg hp)
  rw [hv0] at hQ
  by_cases hq : (smP B n (if lm = 5 then 8 else 6) 5 p).1 = 0
  · obtain ⟨y1, y2, y3, y4⟩ := (hsm p hpn).1 hq
    by_cases hop : opC B n (smP B n (if lm = 5 then 8 else 6) 5 p).2.1 = 0
    · have hv : cmP B n (smP B n (if lm = 5 then 8 else 6) 5) p = (baP B n (smP B n (if lm = 5 then 8 else 6) 5 p).2.1, (smP B n (if lm = 5 then 8 else 6) 5 p).2.1, []) := (if_neg (not_not_intro hq)).trans (if_pos hop)
      rw [hv] at hQ
      have hba := ba_bd (B := B) (n := n) (s := (smP B n (if lm = 5 then 8 else 6) 5 p).2.1)
      refine r_aloadR0 dX5_readUnit_0 ?_
      refine k_gets (ko.2.1 ("NOT", 8) (List.mem_of_getElem? (i := 4) rfl)) zg_RX5_182 dX5_readUnit_1 ?_
      refine q_callV1 zm_RX5_170 dX5_readUnit_4 hr.1 (by decide) rfl (Nat.le_of_ble_eq_true rfl) (Nat.le_of_ble_eq_true rfl) (Nat.le_of_ble_eq_true rfl) (Nat.le_of_ble_eq_true rfl) (Nat.le_of_ble_eq_true rfl) (s_X5_isWord (i := 8) G hr kw ko (by decide) htk (fun r4 e4_z => ?_))
      have e4b : r4.toInt = 0 := e4_z.elim (fun h_z => absurd h_z.2 hw) (fun h_z => h_z.1)
      refine t_ifeq (t := 39) dX5_readUnit_7 (by decide) (fun h7 => ?_) (fun h7 => False.elim (by omega))
      refine r_aloadR0 dX5_readUnit_39 ?_
      refine m_getV (x := (f A 4)) zf_RX5_25 rfl dX5_readUnit_40 hr.1 (rfl) ?_
      refine n_bipush dX5_readUnit_43 (by decide) (fun r43 e43 => ?_)
      refine t_icne (t := 81) dX5_readUnit_45 (by decide) (fun h45 => ?_) (fun h45 => False.elim (by omega))
      refine r_aloadR0 dX5_readUnit_81 ?_
      refine r_iload1 dX5_readUnit_82 ?_
      refine q_callV1 zm_RX5_146 dX5_readUnit_83 hr.1 (by decide) rfl (Nat.le_of_ble_eq_true rfl) (Nat.le_of_ble_eq_true rfl) (Nat.le_of_ble_eq_true rfl) (Nat.le_of_ble_eq_true rfl) (Nat.le_of_ble_eq_true rfl) (s_X5_readSum_5 (lm := lm) (u := u) G hr kw ko htp htk hx hol hu hup (fun r83 v83 g83 o83 a83 b83 => ?_))
      have a83b : (smP B n (if lm = 5 then 8 else 6) 5 p).1 = 0 → r83.toInt = 1 ∧ tkR ca B n g83 v83 A (smP B n (if lm = 5 then 8 else 6) 5 p).2.1 ∧ okR f g83 A u (smP B n (if lm = 5 then 8 else 6) 5 p).2.2 := a83
      have b83b : (smP B n (if lm = 5 then 8 else 6) 5 p).1 ≠ 0 → r83.toInt = 0 ∧ flR g83 A (smP B n (if lm = 5 then 8 else 6) 5 p).1 (smP B n (if lm = 5 then 8 else 6) 5 p).2.1 := b83
      obtain ⟨c83, t83, k83⟩ := a83b hq
      have htp83 := tpR_of htp ht o83 (by decide)
      refine t_ifne (t := 91) dX5_readUnit_86 (by decide) (fun h86 => ?_) (fun h86 => False.elim (by omega))
      refine r_aloadR0 dX5_readUnit_91 ?_
      refine q_callV0 zm_RX5_188 dX5_readUnit_92 hr.1 (by decide) rfl (Nat.le_of_ble_eq_true rfl) (Nat.le_of_ble_eq_true rfl) (Nat.le_of_ble_eq_true rfl) (Nat.le_of_ble_eq_true rfl) (Nat.le_of_ble_eq_true rfl) (s_X5_comparing (n := n) (B := B) (s := (smP B n (if lm = 5 then 8 else 6) 5 p).2.1) G hr t83 (fun r92 a92 b92 => ?_))
      have e92_z := a92 hop
      refine r_istore2 dX5_readUnit_95 rfl ?_
      refine r_iload2 dX5_readUnit_96 ?_
      refine n_iconst dX5_readUnit_97 (by decide) (fun r97 e97_z => ?_)
      refine t_icne (t := 106) dX5_readUnit_98 (by decide) (fun h98 => False.elim (by omega)) (fun h98 => ?_)
      refine r_aloadR0 dX5_readUnit_101 ?_
      refine q_callV0 zm_RX5_80 dX5_readUnit_102 hr.1 (by decide) rfl (Nat.le_of_ble_eq_true rfl) (Nat.le_of_ble_eq_true rfl) (Nat.le_of_ble_eq_true rfl) (Nat.le_of_ble_eq_true rfl) (Nat.le_of_ble_eq_true rfl) (s_X5_refuseToken G hr t83 (fun r102 g102 e102_z o102 l102 => ?_))
      refine m_zret dX5_readUnit_105 rfl (by omega) (Nat.le_of_ble_eq_true rfl) (Nat.le_of_ble_eq_true rfl) ?_
      exact hQ _ _ g102 (frM_tr o83 (frM_su o102 (by decide) (by decide))) (fun h_z => absurd h_z hba.1) (fun _ => ⟨e102_z, l102⟩)
    · have hcb := (hop_C (B := B) (n := n) _ hop)
      have hnx := nxP_gt (B := B) hcb.1
      have hge : 2000 ≤ opC B n (smP B n (if lm = 5 then 8 else 6) 5 p).2.1 := by rcases hcb.2 with ⟨_, _, h_z⟩ | ⟨_, _, h_z⟩ | ⟨_, _, h_z⟩ <;> omega
      by_cases hq2 : (smP B n (if lm = 5 then 8 else 6) 5 (nxP B n (smP B n (if lm = 5 then 8 else 6) 5 p).2.1)).1 = 0
      · obtain ⟨z1, z2, z3, z4⟩ := (hsm _ hnx.2).1 hq2
        have hv : cmP B n (smP B n (if lm = 5 then 8 else 6) 5) p = (0, (smP B n (if lm = 5 then 8 else 6) 5 (nxP B n (smP B n (if lm = 5 then 8 else 6) 5 p).2.1)).2.1, (smP B n (if lm = 5 then 8 else 6) 5 p).2.2 ++ (smP B n (if lm = 5 then 8 else 6) 5 (nxP B n (smP B n (if lm = 5 then 8 else 6) 5 p).2.1)).2.2 ++ [opC B n (smP B n (if lm = 5 then 8 else 6) 5 p).2.1]) := (if_neg (not_not_intro hq)).trans ((if_neg hop).trans (if_neg (not_not_intro hq2)))
        rw [hv] at hQ
        refine r_aloadR0 dX5_readUnit_0 ?_
        refine k_gets (ko.2.1 ("NOT", 8) (List.mem_of_getElem? (i := 4) rfl)) zg_RX5_182 dX5_readUnit_1 ?_
        refine q_callV1 zm_RX5_170 dX5_readUnit_4 hr.1 (by decide) rfl (Nat.le_of_ble_eq_true rfl) (Nat.le_of_ble_eq_true rfl) (Nat.le_of_ble_eq_true rfl) (Nat.le_of_ble_eq_true rfl) (Nat.le_of_ble_eq_true rfl) (s_X5_isWord (i := 8) G hr kw ko (by decide) htk (fun r4 e4_z => ?_))
        have e4b : r4.toInt = 0 := e4_z.elim (fun h_z => absurd h_z.2 hw) (fun h_z => h_z.1)
        refine t_ifeq (t := 39) dX5_readUnit_7 (by decide) (fun h7 => ?_) (fun h7 => False.elim (by omega))
        refine r_aloadR0 dX5_readUnit_39 ?_
        refine m_getV (x := (f A 4)) zf_RX5_25 rfl dX5_readUnit_40 hr.1 (rfl) ?_
        refine n_bipush dX5_readUnit_43 (by decide) (fun r43 e43 => ?_)
        refine t_icne (t := 81) dX5_readUnit_45 (by decide) (fun h45 => ?_) (fun h45 => False.elim (by omega))
        refine r_aloadR0 dX5_readUnit_81 ?_
        refine r_iload1 dX5_readUnit_82 ?_
        refine q_callV1 zm_RX5_146 dX5_readUnit_83 hr.1 (by decide) rfl (Nat.le_of_ble_eq_true rfl) (Nat.le_of_ble_eq_true rfl) (Nat.le_of_ble_eq_true rfl) (Nat.le_of_ble_eq_true rfl) (Nat.le_of_ble_eq_true rfl) (s_X5_readSum_5 (lm := lm) (u := u) G hr kw ko htp htk hx hol hu hup (fun r83 v83 g83 o83 a83 b83 => ?_))
        have a83b : (smP B n (if lm = 5 then 8 else 6) 5 p).1 = 0 → r83.toInt = 1 ∧ tkR ca B n g83 v83 A (smP B n (if lm = 5 then 8 else 6) 5 p).2.1 ∧ okR f g83 A u (smP B n (if lm = 5 then 8 else 6) 5 p).2.2 := a83
        have b83b : (smP B n (if lm = 5 then 8 else 6) 5 p).1 ≠ 0 → r83.toInt = 0 ∧ flR g83 A (smP B n (if lm = 5 then 8 else 6) 5 p).1 (smP B n (if lm = 5 then 8 else 6) 5 p).2.1 := b83
        obtain ⟨c83, t83, k83⟩ := a83b hq
        have htp83 := tpR_of htp ht o83 (by decide)
        refine t_ifne (t := 91) dX5_readUnit_86 (by decide) (fun h86 => ?_) (fun h86 => False.elim (by omega))
        refine r_aloadR0 dX5_readUnit_91 ?_
        refine q_callV0 zm_RX5_188 dX5_readUnit_92 hr.1 (by decide) rfl (Nat.le_of_ble_eq_true rfl) (Nat.le_of_ble_eq_true rfl) (Nat.le_of_ble_eq_true rfl) (Nat.le_of_ble_eq_true rfl) (Nat.le_of_ble_eq_true rfl) (s_X5_comparing (n := n) (B := B) (s := (smP B n (if lm = 5 then 8 else 6) 5 p).2.1) G hr t83 (fun r92 a92 b92 => ?_))
        have e92_z := b92 hop
        refine r_istore2 dX5_readUnit_95 rfl ?_
        refine r_iload2 dX5_readUnit_96 ?_
        refine n_iconst dX5_readUnit_97 (by decide) (fun r97 e97_z => ?_)
        refine t_icne (t := 106) dX5_readUnit_98 (by decide) (fun h98 => ?_) (fun h98 => False.elim (by omega))
        refine r_aloadR0 dX5_readUnit_106 ?_
        refine q_callV0 zm_RX5_73 dX5_readUnit_107 hr.1 (by decide) rfl (Nat.le_of_ble_eq_true rfl) (Nat.le_of_ble_eq_true rfl) (Nat.le_of_ble_eq_true rfl) (Nat.le_of_ble_eq_true rfl) (Nat.le_of_ble_eq_true rfl) (s_X5_next (p := teP B n (smP B n (if lm = 5 then 8 else 6) 5 p).2.1) G hr kw ko htp83 t83.2.1 (teP_le t83.1) t83.2.2.2.2.2.2 (fun v107 g107 o107 t107 => ?_))
        have t107 : tkR ca B n g107 v107 A (nxP B n (smP B n (if lm = 5 then 8 else 6) 5 p).2.1) := t107
        have htpn := tpR_of htp83 ht o107 (by decide)
        have wn : g107 (A + 8) = g83 (A + 8) := o107.2.1 8 (by decide) (by decide) (by decide)
        refine r_aloadR0 dX5_readUnit_110 ?_
        refine r_iload1 dX5_readUnit_111 ?_
        refine q_callV1 zm_RX5_146 dX5_readUnit_112 hr.1 (by decide) rfl (Nat.le_of_ble_eq_true rfl) (Nat.le_of_ble_eq_true rfl) (Nat.le_of_ble_eq_true rfl) (Nat.le_of_ble_eq_true rfl) (Nat.le_of_ble_eq_true rfl) (s_X5_readSum_5 (lm := lm) (u := u + (smP B n (if lm = 5 then 8 else 6) 5 p).2.2.length) G hr kw ko htpn t107 hx (by rw [o107.2.2 10 (by decide), o83.2.2 10 (by decide)]; exact hol) (by rw [o107.2.2 9 (by decide)]; exact k83.1) (by omega) (fun rs vs gs os as bs => ?_))
        have as2 : (smP B n (if lm = 5 then 8 else 6) 5 (nxP B n (smP B n (if lm = 5 then 8 else 6) 5 p).2.1)).1 = 0 → rs.toInt = 1 ∧ tkR ca B n gs vs A (smP B n (if lm = 5 then 8 else 6) 5 (nxP B n (smP B n (if lm = 5 then 8 else 6) 5 p).2.1)).2.1 ∧ okR g107 gs A (u + (smP B n (if lm = 5 then 8 else 6) 5 p).2.2.length) (smP B n (if lm = 5 then 8 else 6) 5 (nxP B n (smP B n (if lm = 5 then 8 else 6) 5 p).2.1)).2.2 := as
        have bs2 : (smP B n (if lm = 5 then 8 else 6) 5 (nxP B n (smP B n (if lm = 5 then 8 else 6) 5 p).2.1)).1 ≠ 0 → rs.toInt = 0 ∧ flR gs A (smP B n (if lm = 5 then 8 else 6) 5 (nxP B n (smP B n (if lm = 5 then 8 else 6) 5 p).2.1)).1 (smP B n (if lm = 5 then 8 else 6) 5 (nxP B n (smP B n (if lm = 5 then 8 else 6) 5 p).2.1)).2.1 := bs
        have ofs : frM A [8] [2, 3, 4, 5, 9, 11, 12] f gs := frM_tr o83 (frM_tr (frM_su o107 (by decide) (by decide)) os)
        obtain ⟨cs, ts, ks⟩ := as2 hq2
        refine t_ifne (t := 120) dX5_readUnit_115 (by decide) (fun h115 => ?_) (fun h115 => False.elim (by omega))
        refine r_aloadR0 dX5_readUnit_120 ?_
        refine r_iload2 dX5_readUnit_121 ?_
        refine q_callV1 zm_RX5_173 dX5_readUnit_122 hr.1 (by decide) rfl (Nat.le_of_ble_eq_true rfl) (Nat.le_of_ble_eq_true rfl) (Nat.le_of_ble_eq_true rfl) (Nat.le_of_ble_eq_true rfl) (Nat.le_of_ble_eq_true rfl) (s_X5_emit (u := u + (smP B n (if lm = 5 then 8 else 6) 5 p).2.2.length + (smP B n (if lm = 5 then 8 else 6) 5 (nxP B n (smP B n (if lm = 5 then 8 else 6) 5 p).2.1)).2.2.length) G hr ks.1 (by omega) (fun g122 o122 a122 b122 c122 => ?_))
        refine n_iconst dX5_readUnit_125 (by decide) (fun r125 e125_z => ?_)
        refine m_zret dX5_readUnit_126 rfl (by omega) (Nat.le_of_ble_eq_true rfl) (Nat.le_of_ble_eq_true rfl) ?_
        refine hQ _ _ g122 (frM_tr ofs (frM_su o122 (by decide) (by decide))) (fun _ => ⟨e125_z, tkR_of ts o122 (by decide) (by decide) (by decide) (by decide), okR_ap (okR_ap k83 (okR_cg ks wn rfl rfl)) ?_⟩) (fun h_z => absurd rfl h_z)
        rw [List.length_append, ← Nat.add_assoc]
        exact okR_one a122 b122 c122 e92_z
      · have hv : cmP B n (smP B n (if lm = 5 then 8 else 6) 5) p = (smP B n (if lm = 5 then 8 else 6) 5 (nxP B n (smP B n (if lm = 5 then 8 else 6) 5 p).2.1)) := (if_neg (not_not_intro hq)).trans ((if_neg hop).trans (if_pos hq2))
        rw [hv] at hQ
        refine r_aloadR0 dX5_readUnit_0 ?_
        refine k_gets (ko.2.1 ("NOT", 8) (List.mem_of_getElem? (i := 4) rfl)) zg_RX5_182 dX5_readUnit_1 ?_
        refine q_callV1 zm_RX5_170 dX5_readUnit_4 hr.1 (by decide) rfl (Nat.le_of_ble_eq_true rfl) (Nat.le_of_ble_eq_true rfl) (Nat.le_of_ble_eq_true rfl) (Nat.le_of_ble_eq_true rfl) (Nat.le_of_ble_eq_true rfl) (s_X5_isWord (i := 8) G hr kw ko (by decide) htk (fun r4 e4_z => ?_))
        have e4b : r4.toInt = 0 := e4_z.elim (fun h_z => absurd h_z.2 hw) (fun h_z => h_z.1)
        refine t_ifeq (t := 39) dX5_readUnit_7 (by decide) (fun h7 => ?_) (fun h7 => False.elim (by omega))
        refine r_aloadR0 dX5_readUnit_39 ?_
        refine m_getV (x := (f A 4)) zf_RX5_25 rfl dX5_readUnit_40 hr.1 (rfl) ?_
        refine n_bipush dX5_readUnit_43 (by decide) (fun r43 e43 => ?_)
        refine t_icne (t := 81) dX5_readUnit_45 (by decide) (fun h45 => ?_) (fun h45 => False.elim (by omega))
        refine r_aloadR0 dX5_readUnit_81 ?_
        refine r_iload1 dX5_readUnit_82 ?_
        refine q_callV1 zm_RX5_146 dX5_readUnit_83 hr.1 (by decide) rfl (Nat.le_of_ble_eq_true rfl) (Nat.le_of_ble_eq_true rfl) (Nat.le_of_ble_eq_true rfl) (Nat.le_of_ble_eq_true rfl) (Nat.le_of_ble_eq_true rfl) (s_X5_readSum_5 (lm := lm) (u := u) G hr kw ko htp htk hx hol hu hup (fun r83 v83 g83 o83 a83 b83 => ?_))
        have a83b : (smP B n (if lm = 5 then 8 else 6) 5 p).1 = 0 → r83.toInt = 1 ∧ tkR ca B n g83 v83 A (smP B n (if lm = 5 then 8 else 6) 5 p).2.1 ∧ okR f g83 A u (smP B n (if lm = 5 then 8 else 6) 5 p).2.2 := a83
        have b83b : (smP B n (if lm = 5 then 8 else 6) 5 p).1 ≠ 0 → r83.toInt = 0 ∧ flR g83 A (smP B n (if lm = 5 then 8 else 6) 5 p).1 (smP B n (if lm = 5 then 8 else 6) 5 p).2.1 := b83
        obtain ⟨c83, t83, k83⟩ := a83b hq
        have htp83 := tpR_of htp ht o83 (by decide)
        refine t_ifne (t := 91) dX5_readUnit_86 (by decide) (fun h86 => ?_) (fun h86 => False.elim (by omega))
        refine r_aloadR0 dX5_readUnit_91 ?_
        refine q_callV0 zm_RX5_188 dX5_readUnit_92 hr.1 (by decide) rfl (Nat.le_of_ble_eq_true rfl) (Nat.le_of_ble_eq_true rfl) (Nat.le_of_ble_eq_true rfl) (Nat.le_of_ble_eq_true rfl) (Nat.le_of_ble_eq_true rfl) (s_X5_comparing (n := n) (B := B) (s := (smP B n (if lm = 5 then 8 else 6) 5 p).2.1) G hr t83 (fun r92 a92 b92 => ?_))
        have e92_z := b92 hop
        refine r_istore2 dX5_readUnit_95 rfl ?_
        refine r_iload2 dX5_readUnit_96 ?_
        refine n_iconst dX5_readUnit_97 (by decide) (fun r97 e97_z => ?_)
        refine t_icne (t := 106) dX5_readUnit_98 (by decide) (fun h98 => ?_) (fun h98 => False.elim (by omega))
        refine r_aloadR0 dX5_readUnit_106 ?_
        refine q_callV0 zm_RX5_73 dX5_readUnit_107 hr.1 (by decide) rfl (Nat.le_of_ble_eq_true rfl) (Nat.le_of_ble_eq_true rfl) (Nat.le_of_ble_eq_true rfl) (Nat.le_of_ble_eq_true rfl) (Nat.le_of_ble_eq_true rfl) (s_X5_next (p := teP B n (smP B n (if lm = 5 then 8 else 6) 5 p).2.1) G hr kw ko htp83 t83.2.1 (teP_le t83.1) t83.2.2.2.2.2.2 (fun v107 g107 o107 t107 => ?_))
        have t107 : tkR ca B n g107 v107 A (nxP B n (smP B n (if lm = 5 then 8 else 6) 5 p).2.1) := t107
        have htpn := tpR_of htp83 ht o107 (by decide)
        have wn : g107 (A + 8) = g83 (A + 8) := o107.2.1 8 (by decide) (by decide) (by decide)
        refine r_aloadR0 dX5_readUnit_110 ?_
        refine r_iload1 dX5_readUnit_111 ?_
        refine q_callV1 zm_RX5_146 dX5_readUnit_112 hr.1 (by decide) rfl (Nat.le_of_ble_eq_true rfl) (Nat.le_of_ble_eq_true rfl) (Nat.le_of_ble_eq_true rfl) (Nat.le_of_ble_eq_true rfl) (Nat.le_of_ble_eq_true rfl) (s_X5_readSum_5 (lm := lm) (u := u + (smP B n (if lm = 5 then 8 else 6) 5 p).2.2.length) G hr kw ko htpn t107 hx (by rw [o107.2.2 10 (by decide), o83.2.2 10 (by decide)]; exact hol) (by rw [o107.2.2 9 (by decide)]; exact k83.1) (by omega) (fun rs vs gs os as bs => ?_))
        have as2 : (smP B n (if lm = 5 then 8 else 6) 5 (nxP B n (smP B n (if lm = 5 then 8 else 6) 5 p).2.1)).1 = 0 → rs.toInt = 1 ∧ tkR ca B n gs vs A (smP B n (if lm = 5 then 8 else 6) 5 (nxP B n (smP B n (if lm = 5 then 8 else 6) 5 p).2.1)).2.1 ∧ okR g107 gs A (u + (smP B n (if lm = 5 then 8 else 6) 5 p).2.2.length) (smP B n (if lm = 5 then 8 else 6) 5 (nxP B n (smP B n (if lm = 5 then 8 else 6) 5 p).2.1)).2.2 := as
        have bs2 : (smP B n (if lm = 5 then 8 else 6) 5 (nxP B n (smP B n (if lm = 5 then 8 else 6) 5 p).2.1)).1 ≠ 0 → rs.toInt = 0 ∧ flR gs A (smP B n (if lm = 5 then 8 else 6) 5 (nxP B n (smP B n (if lm = 5 then 8 else 6) 5 p).2.1)).1 (smP B n (if lm = 5 then 8 else 6) 5 (nxP B n (smP B n (if lm = 5 then 8 else 6) 5 p).2.1)).2.1 := bs
        have ofs : frM A [8] [2, 3, 4, 5, 9, 11, 12] f gs := frM_tr o83 (frM_tr (frM_su o107 (by decide) (by decide)) os)
        obtain ⟨cs, ls⟩ := bs2 hq2
        refine t_ifne (t := 120) dX5_readUnit_115 (by decide) (fun h115 => False.elim (by omega)) (fun h115 => ?_)
        refine n_iconst dX5_readUnit_118 (by decide) (fun r118 e118_z => ?_)
        refine m_zret dX5_readUnit_119 rfl (by omega) (Nat.le_of_ble_eq_true rfl) (Nat.le_of_ble_eq_true rfl) ?_
        exact hQ _ _ gs ofs (fun h_z => absurd h_z hq2) (fun _ => ⟨e118_z, ls⟩)
  · have hv : cmP B n (smP B n (if lm = 5 then 8 else 6) 5) p = (smP B n (if lm = 5 then 8 else 6) 5 p) := if_pos hq
    rw [hv] at hQ
    refine r_aloadR0 dX5_readUnit_0 ?_
    refine k_gets (ko.2.1 ("NOT", 8) (List.mem_of_getElem? (i := 4) rfl)) zg_RX5_182 dX5_readUnit_1 ?_
    refine q_callV1 zm_RX5_170 dX5_readUnit_4 hr.1 (by decide) rfl (Nat.le_of_ble_eq_true rfl) (Nat.le_of_ble_eq_true rfl) (Nat.le_of_ble_eq_true rfl) (Nat.le_of_ble_eq_true rfl) (Nat.le_of_ble_eq_true rfl) (s_X5_isWord (i := 8) G hr kw ko (by decide) htk (fun r4 e4_z => ?_))
    have e4b : r4.toInt = 0 := e4_z.elim (fun h_z => absurd h_z.2 hw) (fun h_z => h_z.1)
    refine t_ifeq (t := 39) dX5_readUnit_7 (by decide) (fun h7 => ?_) (fun h7 => False.elim (by omega))
    refine r_aloadR0 dX5_readUnit_39 ?_
    refine m_getV (x := (f A 4)) zf_RX5_25 rfl dX5_readUnit_40 hr.1 (rfl) ?_
    refine n_bipush dX5_readUnit_43 (by decide) (fun r43 e43 => ?_)
    refine t_icne (t := 81) dX5_readUnit_45 (by decide) (fun h45 => ?_) (fun h45 => False.elim (by omega))
    refine r_aloadR0 dX5_readUnit_81 ?_
    refine r_iload1 dX5_readUnit_82 ?_
    refine q_callV1 zm_RX5_146 dX5_readUnit_83 hr.1 (by decide) rfl (Nat.le_of_ble_eq_true rfl) (Nat.le_of_ble_eq_true rfl) (Nat.le_of_ble_eq_true rfl) (Nat.le_of_ble_eq_true rfl) (Nat.le_of_ble_eq_true rfl) (s_X5_readSum_5 (lm := lm) (u := u) G hr kw ko htp htk hx hol hu hup (fun r83 v83 g83 o83 a83 b83 => ?_))
    have a83b : (smP B n (if lm = 5 then 8 else 6) 5 p).1 = 0 → r83.toInt = 1 ∧ tkR ca B n g83 v83 A (smP B n (if lm = 5 then 8 else 6) 5 p).2.1 ∧ okR f g83 A u (smP B n (if lm = 5 then 8 else 6) 5 p).2.2 := a83
    have b83b : (smP B n (if lm = 5 then 8 else 6) 5 p).1 ≠ 0 → r83.toInt = 0 ∧ flR g83 A (smP B n (if lm = 5 then 8 else 6) 5 p).1 (smP B n (if lm = 5 then 8 else 6) 5 p).2.1 := b83
    obtain ⟨c83, l83⟩ := b83b hq
    refine t_ifne (t := 91) dX5_readUnit_86 (by decide) (fun h86 => False.elim (by omega)) (fun h86 => ?_)
    refine n_iconst dX5_readUnit_89 (by decide) (fun r89 e89 => ?_)
    refine m_zret dX5_readUnit_90 rfl (by omega) (Nat.le_of_ble_eq_true rfl) (Nat.le_of_ble_eq_true rfl) ?_
    exact hQ _ _ g83 o83 (fun h_z => absurd h_z hq) (fun _ => ⟨e89, l83⟩)
set_option maxHeartbeats 4000000 in
set_option maxRecDepth 100000 in
theorem s_X5_readBoth_5 {g : zGT} {w : zW} {f : Nat → Nat → Int32} {j : Nat → Nat → Int64} {A tq nq : Nat} {v : Option Nat} {B : Nat → Nat} {n : Nat} {ca wa wv : Nat → Nat} {kq ta sm gq gv : Nat} {p lm u : Nat} {x : Int32} {Q : Option Value → zW → Prop} {QX : String → zW → Prop} (G : zGok g) (hr : shRd w A tq nq) (kw : kWd g wa wv kq) (ko : kWo g ca wa wv ta sm gq gv) (htp : tpR B n f A tq) (htk : tkR ca B n f v A p) (hx : x.toInt = 1) (hol : (f A 10).toInt = if lm = 5 then 1 else 0) (hu : (f A 9).toInt = (u : Nat)) (hup : u ≤ p) (hQ : ∀ (b : Int32) v2 f2_z, frM A [8] [2, 3, 4, 5, 9, 11, 12] f f2_z → ((chP B n (unP B n (if lm = 5 then 8 else 6) 5) (opA B n) p).1 = 0 → b.toInt = 1 ∧ tkR ca B n f2_z v2 A (chP B n (unP B n (if lm = 5 then 8 else 6) 5) (opA B n) p).2.1 ∧ okR f f2_z A u (chP B n (unP B n (if lm = 5 then 8 else 6) 5) (opA B n) p).2.2) → ((chP B n (unP B n (if lm = 5 then 8 else 6) 5) (opA B n) p).1 ≠ 0 → b.toInt = 0 ∧ flR f2_z A (chP B n (unP B n (if lm = 5 then 8 else 6) 5) (opA B n) p).1 (chP B n (unP B n (if lm = 5 then 8 else 6) 5) (opA B n) p).2.1) → Q (some (.int b)) (zM (wW w A v2) f2_z j)) : zC g 61 yX5_readBoth cX5_readBoth 3 (some .boolean) [.ref A, .int x] (zM (wW w A v) f j) (0, 0) Q QX := by
  refine zC_of G (by decide +kernel) (Nat.le_of_ble_eq_true rfl) ?_
  have ht := hr.2.2.2.2.2.2
  have h4 := htk.2.2.2.1
  have hpn := htk.1
  have h900 := htp.2.1
  have hgd : ∀ s, s ≤ n → gdP n true (if lm = 5 then 8 else 6) (4 + 2 * 5) s ((unP B n (if lm = 5 then 8 else 6) 5) s) := gd_un (by split <;> decide) 5
  have lp : ∀ (mz : Nat) (uu : Int32) (i : Nat) (k : Nat) (ps : Nat) (c : List Nat) (f2_z : Nat → Nat → Int32) (vv : Option Nat), uu.toInt = (i : Nat) → frM A [8] [2, 3, 4, 5, 9, 11, 12] f f2_z → tkR ca B n f2_z vv A ps → okR f f2_z A u c → p + i < ps → ps ≤ n → c.length + p ≤ ps → n ≤ k + ps → lpP B n (unP B n (if lm = 5 then 8 else 6) 5) (opA B n) k (0, ps, c) = chP B n (unP B n (if lm = 5 then 8 else 6) 5) (opA B n) p → k < mz → zR (zV g 61 yX5_readBoth 3 (some .boolean) (0, 0) Q QX) cX5_readBoth yX5_readBoth.cls 12 [some (.ref A), some (.int x), some (.int uu)] [] (zM (wW w A vv) f2_z j) (0, 0) := by
    intro mz
    induction mz with
    | zero =>
      intro uu i k ps c f2_z vv hui ofr htk2 hok hpi hps hcl hnk hR hmz
      exact absurd hmz (Nat.not_lt_zero _)
    | succ mz ih =>
      intro uu i k ps c f2_z vv hui ofr htk2 hok hpi hps hcl hnk hR hmz
      have htp2 := tpR_of htp ht ofr (by decide)
      have h1 := htp2.1
      have htk4 := htk2.2.2.2.1
      have hi9 : i < n := by omega
      by_cases hc_z : isWd B n ps 7 = true
      · have hop : (opA B n) ps = 2001 := if_pos hc_z
        have hop0 : (opA B n) ps ≠ 0 := by rw [hop]; decide
        have hln := tk_lt (B := B) (n := n) (s := ps) (by rw [(isWd_tk hc_z).1]; decide)
        obtain ⟨k2_z, rfl⟩ : ∃ k2_z, k = k2_z + 1 := ⟨k - 1, by omega⟩
        have hnx := nxP_gt (B := B) hln
        have gq := hgd _ hnx.2
        by_cases hq : ((unP B n (if lm = 5 then 8 else 6) 5) (nxP B n ps)).1 = 0
        · obtain ⟨y1, y2, y3, y4⟩ := gq.1 hq
          refine r_iload2 dX5_readBoth_12 ?_
          refine r_aloadR0 dX5_readBoth_13 ?_
          refine m_getV (x := (f2_z A 1)) zf_RX5_15 rfl dX5_readBoth_14 hr.1 (rfl) ?_
          refine t_icge (t := 57) dX5_readBoth_17 (by decide) (fun h17 => False.elim (by omega)) (fun h17 => ?_)
          refine r_aloadR0 dX5_readBoth_20 ?_
          refine k_gets (ko.2.1 ("AND", 7) (List.mem_of_getElem? (i := 7) rfl)) zg_RX5_179 dX5_readBoth_21 ?_
          refine q_callV1 zm_RX5_170 dX5_readBoth_24 hr.1 (by decide) rfl (Nat.le_of_ble_eq_true rfl) (Nat.le_of_ble_eq_true rfl) (Nat.le_of_ble_eq_true rfl) (Nat.le_of_ble_eq_true rfl) (Nat.le_of_ble_eq_true rfl) (s_X5_isWord (i := 7) G hr kw ko (by decide) htk2 (fun r24 e24_z => ?_))
          have e24b : r24.toInt = 1 := e24_z.elim (fun h_z => h_z.1) (fun h_z => absurd hc_z h_z.2)
          refine t_ifeq (t := 57) dX5_readBoth_27 (by decide) (fun h27 => False.elim (by omega)) (fun h27 => ?_)
          refine r_aloadR0 dX5_readBoth_30 ?_
          refine q_callV0 zm_RX5_73 dX5_readBoth_31 hr.1 (by decide) rfl (Nat.le_of_ble_eq_true rfl) (Nat.le_of_ble_eq_true rfl) (Nat.le_of_ble_eq_true rfl) (Nat.le_of_ble_eq_true rfl) (Nat.le_of_ble_eq_true rfl) (s_X5_next (p := teP B n ps) G hr kw ko htp2 htk2.2.1 (teP_le htk2.1) htk2.2.2.2.2.2.2 (fun v31 g31 o31 t31 => ?_))
          have t31 : tkR ca B n g31 v31 A (nxP B n ps) := t31
          have htpn := tpR_of htp2 ht o31 (by decide)
          have wn : g31 (A + 8) = f2_z (A + 8) := o31.2.1 8 (by decide) (by decide) (by decide)
          refine r_aloadR0 dX5_readBoth_34 ?_
          refine r_iload1 dX5_readBoth_35 ?_
          refine q_callV1 zm_RX5_176 dX5_readBoth_36 hr.1 (by decide) rfl (Nat.le_of_ble_eq_true rfl) (Nat.le_of_ble_eq_true rfl) (Nat.le_of_ble_eq_true rfl) (Nat.le_of_ble_eq_true rfl) (Nat.le_of_ble_eq_true rfl) (s_X5_readUnit_5 (lm := lm) (u := u + c.length) G hr kw ko htpn t31 hx (by rw [o31.2.2 10 (by decide), ofr.2.2 10 (by decide)]; exact hol) (by rw [o31.2.2 9 (by decide)]; exact hok.1) (by omega) (fun rs vs gs os as bs => ?_))
          have as2 : ((unP B n (if lm = 5 then 8 else 6) 5) (nxP B n ps)).1 = 0 → rs.toInt = 1 ∧ tkR ca B n gs vs A ((unP B n (if lm = 5 then 8 else 6) 5) (nxP B n ps)).2.1 ∧ okR g31 gs A (u + c.length) ((unP B n (if lm = 5 then 8 else 6) 5) (nxP B n ps)).2.2 := as
          have bs2 : ((unP B n (if lm = 5 then 8 else 6) 5) (nxP B n ps)).1 ≠ 0 → rs.toInt = 0 ∧ flR gs A ((unP B n (if lm = 5 then 8 else 6) 5) (nxP B n ps)).1 ((unP B n (if lm = 5 then 8 else 6) 5) (nxP B n ps)).2.1 := bs
          have ofs : frM A [8] [2, 3, 4, 5, 9, 11, 12] f gs := frM_tr ofr (frM_tr (frM_su o31 (by decide) (by decide)) os)
          obtain ⟨cs, ts, ks⟩ := as2 hq
          refine t_ifne (t := 44) dX5_readBoth_39 (by decide) (fun h39 => ?_) (fun h39 => False.elim (by omega))
          refine r_aloadR0 dX5_readBoth_44 ?_
          refine n_sipush dX5_readBoth_45 (by decide) (fun r45 e45 => ?_)
          refine q_callV1 zm_RX5_173 dX5_readBoth_48 hr.1 (by decide) rfl (Nat.le_of_ble_eq_true rfl) (Nat.le_of_ble_eq_true rfl) (Nat.le_of_ble_eq_true rfl) (Nat.le_of_ble_eq_true rfl) (Nat.le_of_ble_eq_true rfl) (s_X5_emit (u := u + c.length + ((unP B n (if lm = 5 then 8 else 6) 5) (nxP B n ps)).2.2.length) G hr ks.1 (by omega) (fun g48 o48 a48 b48 c48 => ?_))
          refine n_iinc2 dX5_readBoth_51 (by decide) rfl (by omega) (fun r51 e51 => ?_)
          refine r_goto (t := 12) dX5_readBoth_54 (by decide) ?_
          refine ih _ (i + 1) k2_z ((unP B n (if lm = 5 then 8 else 6) 5) (nxP B n ps)).2.1 (c ++ ((unP B n (if lm = 5 then 8 else 6) 5) (nxP B n ps)).2.2 ++ [(opA B n) ps]) g48 _ (by omega) (frM_tr ofs (frM_su o48 (by decide) (by decide))) (tkR_of ts o48 (by decide) (by decide) (by decide) (by decide)) (okR_ap (okR_ap hok (okR_cg ks wn rfl rfl)) ?_) (by omega) y2 ?_ (by omega) ?_ (by omega)
          · rw [List.length_append, ← Nat.add_assoc, hop]
            exact okR_one a48 b48 c48 (by omega)
          · rw [List.length_append, List.length_append, List.length_singleton]
            omega
          · exact (lpP_on (r := (0, ps, c)) rfl hop0 hq).symm.trans hR
        · have hv : ((unP B n (if lm = 5 then 8 else 6) 5) (nxP B n ps)) = chP B n (unP B n (if lm = 5 then 8 else 6) 5) (opA B n) p := (lpP_sub (k := k2_z) (r := (0, ps, c)) rfl hop0 hq).symm.trans hR
          refine r_iload2 dX5_readBoth_12 ?_
          refine r_aloadR0 dX5_readBoth_13 ?_
          refine m_getV (x := (f2_z A 1)) zf_RX5_15 rfl dX5_readBoth_14 hr.1 (rfl) ?_
          refine t_icge (t := 57) dX5_readBoth_17 (by decide) (fun h17 => False.elim (by omega)) (fun h17 => ?_)
          refine r_aloadR0 dX5_readBoth_20 ?_
          refine k_gets (ko.2.1 ("AND", 7) (List.mem_of_getElem? (i := 7) rfl)) zg_RX5_179 dX5_readBoth_21 ?_
          refine q_callV1 zm_RX5_170 dX5_readBoth_24 hr.1 (by decide) rfl (Nat.le_of_ble_eq_true rfl) (Nat.le_of_ble_eq_true rfl) (Nat.le_of_ble_eq_true rfl) (Nat.le_of_ble_eq_true rfl) (Nat.le_of_ble_eq_true rfl) (s_X5_isWord (i := 7) G hr kw ko (by decide) htk2 (fun r24 e24_z => ?_))
          have e24b : r24.toInt = 1 := e24_z.elim (fun h_z => h_z.1) (fun h_z => absurd hc_z h_z.2)
          refine t_ifeq (t := 57) dX5_readBoth_27 (by decide) (fun h27 => False.elim (by omega)) (fun h27 => ?_)
          refine r_aloadR0 dX5_readBoth_30 ?_
          refine q_callV0 zm_RX5_73 dX5_readBoth_31 hr.1 (by decide) rfl (Nat.le_of_ble_eq_true rfl) (Nat.le_of_ble_eq_true rfl) (Nat.le_of_ble_eq_true rfl) (Nat.le_of_ble_eq_true rfl) (Nat.le_of_ble_eq_true rfl) (s_X5_next (p := teP B n ps) G hr kw ko htp2 htk2.2.1 (teP_le htk2.1) htk2.2.2.2.2.2.2 (fun v31 g31 o31 t31 => ?_))
          have t31 : tkR ca B n g31 v31 A (nxP B n ps) := t31
          have htpn := tpR_of htp2 ht o31 (by decide)
          have wn : g31 (A + 8) = f2_z (A + 8) := o31.2.1 8 (by decide) (by decide) (by decide)
          refine r_aloadR0 dX5_readBoth_34 ?_
          refine r_iload1 dX5_readBoth_35 ?_
          refine q_callV1 zm_RX5_176 dX5_readBoth_36 hr.1 (by decide) rfl (Nat.le_of_ble_eq_true rfl) (Nat.le_of_ble_eq_true rfl) (Nat.le_of_ble_eq_true rfl) (Nat.le_of_ble_eq_true rfl) (Nat.le_of_ble_eq_true rfl) (s_X5_readUnit_5 (lm := lm) (u := u + c.length) G hr kw ko htpn t31 hx (by rw [o31.2.2 10 (by decide), ofr.2.2 10 (by decide)]; exact hol) (by rw [o31.2.2 9 (by decide)]; exact hok.1) (by omega) (fun rs vs gs os as bs => ?_))
          have as2 : ((unP B n (if lm = 5 then 8 else 6) 5) (nxP B n ps)).1 = 0 → rs.toInt = 1 ∧ tkR ca B n gs vs A ((unP B n (if lm = 5 then 8 else 6) 5) (nxP B n ps)).2.1 ∧ okR g31 gs A (u + c.length) ((unP B n (if lm = 5 then 8 else 6) 5) (nxP B n ps)).2.2 := as
          have bs2 : ((unP B n (if lm = 5 then 8 else 6) 5) (nxP B n ps)).1 ≠ 0 → rs.toInt = 0 ∧ flR gs A ((unP B n (if lm = 5 then 8 else 6) 5) (nxP B n ps)).1 ((unP B n (if lm = 5 then 8 else 6) 5) (nxP B n ps)).2.1 := bs
          have ofs : frM A [8] [2, 3, 4, 5, 9, 11, 12] f gs := frM_tr ofr (frM_tr (frM_su o31 (by decide) (by decide)) os)
          obtain ⟨cs, ls⟩ := bs2 hq
          refine t_ifne (t := 44) dX5_readBoth_39 (by decide) (fun h39 => False.elim (by omega)) (fun h39 => ?_)
          refine n_iconst dX5_readBoth_42 (by decide) (fun r42 e42_z => ?_)
          refine m_zret dX5_readBoth_43 rfl (by omega) (Nat.le_of_ble_eq_true rfl) (Nat.le_of_ble_eq_true rfl) ?_
          rw [← hv] at hQ
          exact hQ _ _ gs ofs (fun h_z => absurd h_z hq) (fun _ => ⟨e42_z, ls⟩)
      have hop : (opA B n) ps = 0 := if_neg hc_z
      have hv := (lpP_end (B := B) (n := n) (k := k) (sub := (unP B n (if lm = 5 then 8 else 6) 5)) (r := (0, ps, c)) hop).symm.trans hR
      refine r_iload2 dX5_readBoth_12 ?_
      refine r_aloadR0 dX5_readBoth_13 ?_
      refine m_getV (x := (f2_z A 1)) zf_RX5_15 rfl dX5_readBoth_14 hr.1 (rfl) ?_
      refine t_icge (t := 57) dX5_readBoth_17 (by decide) (fun h17 => False.elim (by omega)) (fun h17 => ?_)
      refine r_aloadR0 dX5_readBoth_20 ?_
      refine k_gets (ko.2.1 ("AND", 7) (List.mem_of_getElem? (i := 7) rfl)) zg_RX5_179 dX5_readBoth_21 ?_
      refine q_callV1 zm_RX5_170 dX5_readBoth_24 hr.1 (by decide) rfl (Nat.le_of_ble_eq_true rfl) (Nat.le_of_ble_eq_true rfl) (Nat.le_of_ble_eq_true rfl) (Nat.le_of_ble_eq_true rfl) (Nat.le_of_ble_eq_true rfl) (s_X5_isWord (i := 7) G hr kw ko (by decide) htk2 (fun r24 e24_z => ?_))
      have e24b : r24.toInt = 0 := e24_z.elim (fun h_z => absurd h_z.2 hc_z) (fun h_z => h_z.1)
      refine t_ifeq (t := 57) dX5_readBoth_27 (by decide) (fun h27 => ?_) (fun h27 => False.elim (by omega))
      refine n_iconst dX5_readBoth_57 (by decide) (fun r57 e57 => ?_)
      refine m_zret dX5_readBoth_58 rfl (by omega) (Nat.le_of_ble_eq_true rfl) (Nat.le_of_ble_eq_true rfl) ?_
      rw [← hv] at hQ
      exact hQ _ _ f2_z ofr (fun _ => ⟨e57, htk2, hok⟩) (fun h_z => absurd rfl h_z)
  have gp := hgd p hpn
  by_cases hq : ((unP B n (if lm = 5 then 8 else 6) 5) p).1 = 0
  · obtain ⟨y1, y2, y3, y4⟩ := gp.1 hq
    have hz : ((unP B n (if lm = 5 then 8 else 6) 5) p) = (0, ((unP B n (if lm = 5 then 8 else 6) 5) p).2.1, ((unP B n (if lm = 5 then 8 else 6) 5) p).2.2) := Prod.ext hq rfl
    refine r_aloadR0 dX5_readBoth_0 ?_
    refine r_iload1 dX5_readBoth_1 ?_
    refine q_callV1 zm_RX5_176 dX5_readBoth_2 hr.1 (by decide) rfl (Nat.le_of_ble_eq_true rfl) (Nat.le_of_ble_eq_true rfl) (Nat.le_of_ble_eq_true rfl) (Nat.le_of_ble_eq_true rfl) (Nat.le_of_ble_eq_true rfl) (s_X5_readUnit_5 G hr kw ko htp htk hx hol hu hup (fun r2 v2 g2 o2 a2 b2 => ?_))
    have a2b : ((unP B n (if lm = 5 then 8 else 6) 5) p).1 = 0 → r2.toInt = 1 ∧ tkR ca B n g2 v2 A ((unP B n (if lm = 5 then 8 else 6) 5) p).2.1 ∧ okR f g2 A u ((unP B n (if lm = 5 then 8 else 6) 5) p).2.2 := a2
    have b2b : ((unP B n (if lm = 5 then 8 else 6) 5) p).1 ≠ 0 → r2.toInt = 0 ∧ flR g2 A ((unP B n (if lm = 5 then 8 else 6) 5) p).1 ((unP B n (if lm = 5 then 8 else 6) 5) p).2.1 := b2
    obtain ⟨c2_z, t2, k2_z⟩ := a2b hq
    refine t_ifne (t := 10) dX5_readBoth_5 (by decide) (fun h5 => ?_) (fun h5 => False.elim (by omega))
    refine n_iconst dX5_readBoth_10 (by decide) (fun r10 e10_z => ?_)
    refine r_istore2 dX5_readBoth_11 rfl ?_
    exact lp (n + 1) _ 0 n ((unP B n (if lm = 5 then 8 else 6) 5) p).2.1 ((unP B n (if lm = 5 then 8 else 6) 5) p).2.2 g2 _ (by omega) o2 t2 k2_z (by omega) y2 y3 (by omega) (by rw [← hz]; rfl) (Nat.lt_succ_self n)
  · have hv : chP B n (unP B n (if lm = 5 then 8 else 6) 5) (opA B n) p = ((unP B n (if lm = 5 then 8 else 6) 5) p) := lpP_bad hq
    rw [hv] at hQ
    refine r_aloadR0 dX5_readBoth_0 ?_
    refine r_iload1 dX5_readBoth_1 ?_
    refine q_callV1 zm_RX5_176 dX5_readBoth_2 hr.1 (by decide) rfl (Nat.le_of_ble_eq_true rfl) (Nat.le_of_ble_eq_true rfl) (Nat.le_of_ble_eq_true rfl) (Nat.le_of_ble_eq_true rfl) (Nat.le_of_ble_eq_true rfl) (s_X5_readUnit_5 G hr kw ko htp htk hx hol hu hup (fun r2 v2 g2 o2 a2 b2 => ?_))
    have a2b : ((unP B n (if lm = 5 then 8 else 6) 5) p).1 = 0 → r2.toInt = 1 ∧ tkR ca B n g2 v2 A ((unP B n (if lm = 5 then 8 else 6) 5) p).2.1 ∧ okR f g2 A u ((unP B n (if lm = 5 then 8 else 6) 5) p).2.2 := a2
    have b2b : ((unP B n (if lm = 5 then 8 else 6) 5) p).1 ≠ 0 → r2.toInt = 0 ∧ flR g2 A ((unP B n (if lm = 5 then 8 else 6) 5) p).1 ((unP B n (if lm = 5 then 8 else 6) 5) p).2.1 := b2
    obtain ⟨c2_z, l2⟩ := b2b hq
    refine t_ifne (t := 10) dX5_readBoth_5 (by decide) (fun h5 => False.elim (by omega)) (fun h5 => ?_)
    refine n_iconst dX5_readBoth_8 (by decide) (fun r8 e8 => ?_)
    refine m_zret dX5_readBoth_9 rfl (by omega) (Nat.le_of_ble_eq_true rfl) (Nat.le_of_ble_eq_true rfl) ?_
    exact hQ _ _ g2 o2 (fun h_z => absurd h_z hq) (fun _ => ⟨e8, l2⟩)
set_option maxHeartbeats 4000000 in
set_option maxRecDepth 100000 in
theorem s_X5_readTruth_5 {g : zGT} {w : zW} {f : Nat → Nat → Int32} {j : Nat → Nat → Int64} {A tq nq : Nat} {v : Option Nat} {B : Nat → Nat} {n : Nat} {ca wa wv : Nat → Nat} {kq ta sm gq gv : Nat} {p lm u : Nat} {x : Int32} {Q : Option Value → zW → Prop} {QX : String → zW → Prop} (G : zGok g) (hr : shRd w A tq nq) (kw : kWd g wa wv kq) (ko : kWo g ca wa wv ta sm gq gv) (htp : tpR B n f A tq) (htk : tkR ca B n f v A p) (hx : x.toInt = 1) (hol : (f A 10).toInt = if lm = 5 then 1 else 0) (hu : (f A 9).toInt = (u : Nat)) (hup : u ≤ p) (hQ : ∀ (b : Int32) v2 f2_z, frM A [8] [2, 3, 4, 5, 9, 11, 12] f f2_z → ((chP B n (chP B n (unP B n (if lm = 5 then 8 else 6) 5) (opA B n)) (opO B n) p).1 = 0 → b.toInt = 1 ∧ tkR ca B n f2_z v2 A (chP B n (chP B n (unP B n (if lm = 5 then 8 else 6) 5) (opA B n)) (opO B n) p).2.1 ∧ okR f f2_z A u (chP B n (chP B n (unP B n (if lm = 5 then 8 else 6) 5) (opA B n)) (opO B n) p).2.2) → ((chP B n (chP B n (unP B n (if lm = 5 then 8 else 6) 5) (opA B n)) (opO B n) p).1 ≠ 0 → b.toInt = 0 ∧ flR f2_z A (chP B n (chP B n (unP B n (if lm = 5 then 8 else 6) 5) (opA B n)) (opO B n) p).1 (chP B n (chP B n (unP B n (if lm = 5 then 8 else 6) 5) (opA B n)) (opO B n) p).2.1) → Q (some (.int b)) (zM (wW w A v2) f2_z j)) : zC g 62 yX5_readTruth cX5_readTruth 3 (some .boolean) [.ref A, .int x] (zM (wW w A v) f j) (0, 0) Q QX := by
  refine zC_of G (by decide +kernel) (Nat.le_of_ble_eq_true rfl) ?_
  have ht := hr.2.2.2.2.2.2
  have h4 := htk.2.2.2.1
  have hpn := htk.1
  have h900 := htp.2.1
  have hgd : ∀ s, s ≤ n → gdP n true (if lm = 5 then 8 else 6) (4 + 2 * 5 + 1) s ((chP B n (unP B n (if lm = 5 then 8 else 6) 5) (opA B n)) s) := fun s hs9 => gd_ch (gd_un (by split <;> decide) 5) hop_A hs9
  have lp : ∀ (mz : Nat) (uu : Int32) (i : Nat) (k : Nat) (ps : Nat) (c : List Nat) (f2_z : Nat → Nat → Int32) (vv : Option Nat), uu.toInt = (i : Nat) → frM A [8] [2, 3, 4, 5, 9, 11, 12] f f2_z → tkR ca B n f2_z vv A ps → okR f f2_z A u c → p + i < ps → ps ≤ n → c.length + p ≤ ps → n ≤ k + ps → lpP B n (chP B n (unP B n (if lm = 5 then 8 else 6) 5) (opA B n)) (opO B n) k (0, ps, c) = chP B n (chP B n (unP B n (if lm = 5 then 8 else 6) 5) (opA B n)) (opO B n) p → k < mz → zR (zV g 62 yX5_readTruth 3 (some .boolean) (0, 0) Q QX) cX5_readTruth yX5_readTruth.cls 12 [some (.ref A), some (.int x), some (.int uu)] [] (zM (wW w A vv) f2_z j) (0, 0) := by
    intro mz
    induction mz with
    | zero =>
      intro uu i k ps c f2_z vv hui ofr htk2 hok hpi hps hcl hnk hR hmz
      exact absurd hmz (Nat.not_lt_zero _)
    | succ mz ih =>
      intro uu i k ps c f2_z vv hui ofr htk2 hok hpi hps hcl hnk hR hmz
      have htp2 := tpR_of htp ht ofr (by decide)
      have h1 := htp2.1
      have htk4 := htk2.2.2.2.1
      have hi9 : i < n := by omega
      by_cases hc_z : isWd B n ps 6 = true
      · have hop : (opO B n) ps = 2002 := if_pos hc_z
        have hop0 : (opO B n) ps ≠ 0 := by rw [hop]; decide
        have hln := tk_lt (B := B) (n := n) (s := ps) (by rw [(isWd_tk hc_z).1]; decide)
        obtain ⟨k2_z, rfl⟩ : ∃ k2_z, k = k2_z + 1 := ⟨k - 1, by omega⟩
        have hnx := nxP_gt (B := B) hln
        have gq := hgd _ hnx.2
        by_cases hq : ((chP B n (unP B n (if lm = 5 then 8 else 6) 5) (opA B n)) (nxP B n ps)).1 = 0
        · obtain ⟨y1, y2, y3, y4⟩ := gq.1 hq
          refine r_iload2 dX5_readTruth_12 ?_
          refine r_aloadR0 dX5_readTruth_13 ?_
          refine m_getV (x := (f2_z A 1)) zf_RX5_15 rfl dX5_readTruth_14 hr.1 (rfl) ?_
          refine t_icge (t := 57) dX5_readTruth_17 (by decide) (fun h17 => False.elim (by omega)) (fun h17 => ?_)
          refine r_aloadR0 dX5_readTruth_20 ?_
          refine k_gets (ko.2.1 ("OR", 6) (List.mem_of_getElem? (i := 8) rfl)) zg_RX5_167 dX5_readTruth_21 ?_
          refine q_callV1 zm_RX5_170 dX5_readTruth_24 hr.1 (by decide) rfl (Nat.le_of_ble_eq_true rfl) (Nat.le_of_ble_eq_true rfl) (Nat.le_of_ble_eq_true rfl) (Nat.le_of_ble_eq_true rfl) (Nat.le_of_ble_eq_true rfl) (s_X5_isWord (i := 6) G hr kw ko (by decide) htk2 (fun r24 e24_z => ?_))
          have e24b : r24.toInt = 1 := e24_z.elim (fun h_z => h_z.1) (fun h_z => absurd hc_z h_z.2)
          refine t_ifeq (t := 57) dX5_readTruth_27 (by decide) (fun h27 => False.elim (by omega)) (fun h27 => ?_)
          refine r_aloadR0 dX5_readTruth_30 ?_
          refine q_callV0 zm_RX5_73 dX5_readTruth_31 hr.1 (by decide) rfl (Nat.le_of_ble_eq_true rfl) (Nat.le_of_ble_eq_true rfl) (Nat.le_of_ble_eq_true rfl) (Nat.le_of_ble_eq_true rfl) (Nat.le_of_ble_eq_true rfl) (s_X5_next (p := teP B n ps) G hr kw ko htp2 htk2.2.1 (teP_le htk2.1) htk2.2.2.2.2.2.2 (fun v31 g31 o31 t31 => ?_))
          have t31 : tkR ca B n g31 v31 A (nxP B n ps) := t31
          have htpn := tpR_of htp2 ht o31 (by decide)
          have wn : g31 (A + 8) = f2_z (A + 8) := o31.2.1 8 (by decide) (by decide) (by decide)
          refine r_aloadR0 dX5_readTruth_34 ?_
          refine r_iload1 dX5_readTruth_35 ?_
          refine q_callV1 zm_RX5_164 dX5_readTruth_36 hr.1 (by decide) rfl (Nat.le_of_ble_eq_true rfl) (Nat.le_of_ble_eq_true rfl) (Nat.le_of_ble_eq_true rfl) (Nat.le_of_ble_eq_true rfl) (Nat.le_of_ble_eq_true rfl) (s_X5_readBoth_5 (lm := lm) (u := u + c.length) G hr kw ko htpn t31 hx (by rw [o31.2.2 10 (by decide), ofr.2.2 10 (by decide)]; exact hol) (by rw [o31.2.2 9 (by decide)]; exact hok.1) (by omega) (fun rs vs gs os as bs => ?_))
          have as2 : ((chP B n (unP B n (if lm = 5 then 8 else 6) 5) (opA B n)) (nxP B n ps)).1 = 0 → rs.toInt = 1 ∧ tkR ca B n gs vs A ((chP B n (unP B n (if lm = 5 then 8 else 6) 5) (opA B n)) (nxP B n ps)).2.1 ∧ okR g31 gs A (u + c.length) ((chP B n (unP B n (if lm = 5 then 8 else 6) 5) (opA B n)) (nxP B n ps)).2.2 := as
          have bs2 : ((chP B n (unP B n (if lm = 5 then 8 else 6) 5) (opA B n)) (nxP B n ps)).1 ≠ 0 → rs.toInt = 0 ∧ flR gs A ((chP B n (unP B n (if lm = 5 then 8 else 6) 5) (opA B n)) (nxP B n ps)).1 ((chP B n (unP B n (if lm = 5 then 8 else 6) 5) (opA B n)) (nxP B n ps)).2.1 := bs
          have ofs : frM A [8] [2, 3, 4, 5, 9, 11, 12] f gs := frM_tr ofr (frM_tr (frM_su o31 (by decide) (by decide)) os)
          obtain ⟨cs, ts, ks⟩ := as2 hq
          refine t_ifne (t := 44) dX5_readTruth_39 (by decide) (fun h39 => ?_) (fun h39 => False.elim (by omega))
          refine r_aloadR0 dX5_readTruth_44 ?_
          refine n_sipush dX5_readTruth_45 (by decide) (fun r45 e45 => ?_)
          refine q_callV1 zm_RX5_173 dX5_readTruth_48 hr.1 (by decide) rfl (Nat.le_of_ble_eq_true rfl) (Nat.le_of_ble_eq_true rfl) (Nat.le_of_ble_eq_true rfl) (Nat.le_of_ble_eq_true rfl) (Nat.le_of_ble_eq_true rfl) (s_X5_emit (u := u + c.length + ((chP B n (unP B n (if lm = 5 then 8 else 6) 5) (opA B n)) (nxP B n ps)).2.2.length) G hr ks.1 (by omega) (fun g48 o48 a48 b48 c48 => ?_))
          refine n_iinc2 dX5_readTruth_51 (by decide) rfl (by omega) (fun r51 e51 => ?_)
          refine r_goto (t := 12) dX5_readTruth_54 (by decide) ?_
          refine ih _ (i + 1) k2_z ((chP B n (unP B n (if lm = 5 then 8 else 6) 5) (opA B n)) (nxP B n ps)).2.1 (c ++ ((chP B n (unP B n (if lm = 5 then 8 else 6) 5) (opA B n)) (nxP B n ps)).2.2 ++ [(opO B n) ps]) g48 _ (by omega) (frM_tr ofs (frM_su o48 (by decide) (by decide))) (tkR_of ts o48 (by decide) (by decide) (by decide) (by decide)) (okR_ap (okR_ap hok (okR_cg ks wn rfl rfl)) ?_) (by omega) y2 ?_ (by omega) ?_ (by omega)
          · rw [List.length_append, ← Nat.add_assoc, hop]
            exact okR_one a48 b48 c48 (by omega)
          · rw [List.length_append, List.length_append, List.length_singleton]
            omega
          · exact (lpP_on (r := (0, ps, c)) rfl hop0 hq).symm.trans hR
        · have hv : ((chP B n (unP B n (if lm = 5 then 8 else 6) 5) (opA B n)) (nxP B n ps)) = chP B n (chP B n (unP B n (if lm = 5 then 8 else 6) 5) (opA B n)) (opO B n) p := (lpP_sub (k := k2_z) (r := (0, ps, c)) rfl hop0 hq).symm.trans hR
          refine r_iload2 dX5_readTruth_12 ?_
          refine r_aloadR0 dX5_readTruth_13 ?_
          refine m_getV (x := (f2_z A 1)) zf_RX5_15 rfl dX5_readTruth_14 hr.1 (rfl) ?_
          refine t_icge (t := 57) dX5_readTruth_17 (by decide) (fun h17 => False.elim (by omega)) (fun h17 => ?_)
          refine r_aloadR0 dX5_readTruth_20 ?_
          refine k_gets (ko.2.1 ("OR", 6) (List.mem_of_getElem? (i := 8) rfl)) zg_RX5_167 dX5_readTruth_21 ?_
          refine q_callV1 zm_RX5_170 dX5_readTruth_24 hr.1 (by decide) rfl (Nat.le_of_ble_eq_true rfl) (Nat.le_of_ble_eq_true rfl) (Nat.le_of_ble_eq_true rfl) (Nat.le_of_ble_eq_true rfl) (Nat.le_of_ble_eq_true rfl) (s_X5_isWord (i := 6) G hr kw ko (by decide) htk2 (fun r24 e24_z => ?_))
          have e24b : r24.toInt = 1 := e24_z.elim (fun h_z => h_z.1) (fun h_z => absurd hc_z h_z.2)
          refine t_ifeq (t := 57) dX5_readTruth_27 (by decide) (fun h27 => False.elim (by omega)) (fun h27 => ?_)
          refine r_aloadR0 dX5_readTruth_30 ?_
          refine q_callV0 zm_RX5_73 dX5_readTruth_31 hr.1 (by decide) rfl (Nat.le_of_ble_eq_true rfl) (Nat.le_of_ble_eq_true rfl) (Nat.le_of_ble_eq_true rfl) (Nat.le_of_ble_eq_true rfl) (Nat.le_of_ble_eq_true rfl) (s_X5_next (p := teP B n ps) G hr kw ko htp2 htk2.2.1 (teP_le htk2.1) htk2.2.2.2.2.2.2 (fun v31 g31 o31 t31 => ?_))
          have t31 : tkR ca B n g31 v31 A (nxP B n ps) := t31
          have htpn := tpR_of htp2 ht o31 (by decide)
          have wn : g31 (A + 8) = f2_z (A + 8) := o31.2.1 8 (by decide) (by decide) (by decide)
          refine r_aloadR0 dX5_readTruth_34 ?_
          refine r_iload1 dX5_readTruth_35 ?_
          refine q_callV1 zm_RX5_164 dX5_readTruth_36 hr.1 (by decide) rfl (Nat.le_of_ble_eq_true rfl) (Nat.le_of_ble_eq_true rfl) (Nat.le_of_ble_eq_true rfl) (Nat.le_of_ble_eq_true rfl) (Nat.le_of_ble_eq_true rfl) (s_X5_readBoth_5 (lm := lm) (u := u + c.length) G hr kw ko htpn t31 hx (by rw [o31.2.2 10 (by decide), ofr.2.2 10 (by decide)]; exact hol) (by rw [o31.2.2 9 (by decide)]; exact hok.1) (by omega) (fun rs vs gs os as bs => ?_))
          have as2 : ((chP B n (unP B n (if lm = 5 then 8 else 6) 5) (opA B n)) (nxP B n ps)).1 = 0 → rs.toInt = 1 ∧ tkR ca B n gs vs A ((chP B n (unP B n (if lm = 5 then 8 else 6) 5) (opA B n)) (nxP B n ps)).2.1 ∧ okR g31 gs A (u + c.length) ((chP B n (unP B n (if lm = 5 then 8 else 6) 5) (opA B n)) (nxP B n ps)).2.2 := as
          have bs2 : ((chP B n (unP B n (if lm = 5 then 8 else 6) 5) (opA B n)) (nxP B n ps)).1 ≠ 0 → rs.toInt = 0 ∧ flR gs A ((chP B n (unP B n (if lm = 5 then 8 else 6) 5) (opA B n)) (nxP B n ps)).1 ((chP B n (unP B n (if lm = 5 then 8 else 6) 5) (opA B n)) (nxP B n ps)).2.1 := bs
          have ofs : frM A [8] [2, 3, 4, 5, 9, 11, 12] f gs := frM_tr ofr (frM_tr (frM_su o31 (by decide) (by decide)) os)
          obtain ⟨cs, ls⟩ := bs2 hq
          refine t_ifne (t := 44) dX5_readTruth_39 (by decide) (fun h39 => False.elim (by omega)) (fun h39 => ?_)
          refine n_iconst dX5_readTruth_42 (by decide) (fun r42 e42_z => ?_)
          refine m_zret dX5_readTruth_43 rfl (by omega) (Nat.le_of_ble_eq_true rfl) (Nat.le_of_ble_eq_true rfl) ?_
          rw [← hv] at hQ
          exact hQ _ _ gs ofs (fun h_z => absurd h_z hq) (fun _ => ⟨e42_z, ls⟩)
      have hop : (opO B n) ps = 0 := if_neg hc_z
      have hv := (lpP_end (B := B) (n := n) (k := k) (sub := (chP B n (unP B n (if lm = 5 then 8 else 6) 5) (opA B n))) (r := (0, ps, c)) hop).symm.trans hR
      refine r_iload2 dX5_readTruth_12 ?_
      refine r_aloadR0 dX5_readTruth_13 ?_
      refine m_getV (x := (f2_z A 1)) zf_RX5_15 rfl dX5_readTruth_14 hr.1 (rfl) ?_
      refine t_icge (t := 57) dX5_readTruth_17 (by decide) (fun h17 => False.elim (by omega)) (fun h17 => ?_)
      refine r_aloadR0 dX5_readTruth_20 ?_
      refine k_gets (ko.2.1 ("OR", 6) (List.mem_of_getElem? (i := 8) rfl)) zg_RX5_167 dX5_readTruth_21 ?_
      refine q_callV1 zm_RX5_170 dX5_readTruth_24 hr.1 (by decide) rfl (Nat.le_of_ble_eq_true rfl) (Nat.le_of_ble_eq_true rfl) (Nat.le_of_ble_eq_true rfl) (Nat.le_of_ble_eq_true rfl) (Nat.le_of_ble_eq_true rfl) (s_X5_isWord (i := 6) G hr kw ko (by decide) htk2 (fun r24 e24_z => ?_))
      have e24b : r24.toInt = 0 := e24_z.elim (fun h_z => absurd h_z.2 hc_z) (fun h_z => h_z.1)
      refine t_ifeq (t := 57) dX5_readTruth_27 (by decide) (fun h27 => ?_) (fun h27 => False.elim (by omega))
      refine n_iconst dX5_readTruth_57 (by decide) (fun r57 e57 => ?_)
      refine m_zret dX5_readTruth_58 rfl (by omega) (Nat.le_of_ble_eq_true rfl) (Nat.le_of_ble_eq_true rfl) ?_
      rw [← hv] at hQ
      exact hQ _ _ f2_z ofr (fun _ => ⟨e57, htk2, hok⟩) (fun h_z => absurd rfl h_z)
  have gp := hgd p hpn
  by_cases hq : ((chP B n (unP B n (if lm = 5 then 8 else 6) 5) (opA B n)) p).1 = 0
  · obtain ⟨y1, y2, y3, y4⟩ := gp.1 hq
    have hz : ((chP B n (unP B n (if lm = 5 then 8 else 6) 5) (opA B n)) p) = (0, ((chP B n (unP B n (if lm = 5 then 8 else 6) 5) (opA B n)) p).2.1, ((chP B n (unP B n (if lm = 5 then 8 else 6) 5) (opA B n)) p).2.2) := Prod.ext hq rfl
    refine r_aloadR0 dX5_readTruth_0 ?_
    refine r_iload1 dX5_readTruth_1 ?_
    refine q_callV1 zm_RX5_164 dX5_readTruth_2 hr.1 (by decide) rfl (Nat.le_of_ble_eq_true rfl) (Nat.le_of_ble_eq_true rfl) (Nat.le_of_ble_eq_true rfl) (Nat.le_of_ble_eq_true rfl) (Nat.le_of_ble_eq_true rfl) (s_X5_readBoth_5 G hr kw ko htp htk hx hol hu hup (fun r2 v2 g2 o2 a2 b2 => ?_))
    have a2b : ((chP B n (unP B n (if lm = 5 then 8 else 6) 5) (opA B n)) p).1 = 0 → r2.toInt = 1 ∧ tkR ca B n g2 v2 A ((chP B n (unP B n (if lm = 5 then 8 else 6) 5) (opA B n)) p).2.1 ∧ okR f g2 A u ((chP B n (unP B n (if lm = 5 then 8 else 6) 5) (opA B n)) p).2.2 := a2
    have b2b : ((chP B n (unP B n (if lm = 5 then 8 else 6) 5) (opA B n)) p).1 ≠ 0 → r2.toInt = 0 ∧ flR g2 A ((chP B n (unP B n (if lm = 5 then 8 else 6) 5) (opA B n)) p).1 ((chP B n (unP B n (if lm = 5 then 8 else 6) 5) (opA B n)) p).2.1 := b2
    obtain ⟨c2_z, t2, k2_z⟩ := a2b hq
    refine t_ifne (t := 10) dX5_readTruth_5 (by decide) (fun h5 => ?_) (fun h5 => False.elim (by omega))
    refine n_iconst dX5_readTruth_10 (by decide) (fun r10 e10_z => ?_)
    refine r_istore2 dX5_readTruth_11 rfl ?_
    exact lp (n + 1) _ 0 n ((chP B n (unP B n (if lm = 5 then 8 else 6) 5) (opA B n)) p).2.1 ((chP B n (unP B n (if lm = 5 then 8 else 6) 5) (opA B n)) p).2.2 g2 _ (by omega) o2 t2 k2_z (by omega) y2 y3 (by omega) (by rw [← hz]; rfl) (Nat.lt_succ_self n)
  · have hv : chP B n (chP B n (unP B n (if lm = 5 then 8 else 6) 5) (opA B n)) (opO B n) p = ((chP B n (unP B n (if lm = 5 then 8 else 6) 5) (opA B n)) p) := lpP_bad hq
    rw [hv] at hQ
    refine r_aloadR0 dX5_readTruth_0 ?_
    refine r_iload1 dX5_readTruth_1 ?_
    refine q_callV1 zm_RX5_164 dX5_readTruth_2 hr.1 (by decide) rfl (Nat.le_of_ble_eq_true rfl) (Nat.le_of_ble_eq_true rfl) (Nat.le_of_ble_eq_true rfl) (Nat.le_of_ble_eq_true rfl) (Nat.le_of_ble_eq_true rfl) (s_X5_readBoth_5 G hr kw ko htp htk hx hol hu hup (fun r2 v2 g2 o2 a2 b2 => ?_))
    have a2b : ((chP B n (unP B n (if lm = 5 then 8 else 6) 5) (opA B n)) p).1 = 0 → r2.toInt = 1 ∧ tkR ca B n g2 v2 A ((chP B n (unP B n (if lm = 5 then 8 else 6) 5) (opA B n)) p).2.1 ∧ okR f g2 A u ((chP B n (unP B n (if lm = 5 then 8 else 6) 5) (opA B n)) p).2.2 := a2
    have b2b : ((chP B n (unP B n (if lm = 5 then 8 else 6) 5) (opA B n)) p).1 ≠ 0 → r2.toInt = 0 ∧ flR g2 A ((chP B n (unP B n (if lm = 5 then 8 else 6) 5) (opA B n)) p).1 ((chP B n (unP B n (if lm = 5 then 8 else 6) 5) (opA B n)) p).2.1 := b2
    obtain ⟨c2_z, l2⟩ := b2b hq
    refine t_ifne (t := 10) dX5_readTruth_5 (by decide) (fun h5 => False.elim (by omega)) (fun h5 => ?_)
    refine n_iconst dX5_readTruth_8 (by decide) (fun r8 e8 => ?_)
    refine m_zret dX5_readTruth_9 rfl (by omega) (Nat.le_of_ble_eq_true rfl) (Nat.le_of_ble_eq_true rfl) ?_
    exact hQ _ _ g2 o2 (fun h_z => absurd h_z hq) (fun _ => ⟨e8, l2⟩)
set_option maxHeartbeats 4000000 in
set_option maxRecDepth 100000 in
theorem s_X5_readUnit_6 {g : zGT} {w : zW} {f : Nat → Nat → Int32} {j : Nat → Nat → Int64} {A tq nq : Nat} {v : Option Nat} {B : Nat → Nat} {n : Nat} {ca wa wv : Nat → Nat} {kq ta sm gq gv : Nat} {p lm u : Nat} {x : Int32} {Q : Option Value → zW → Prop} {QX : String → zW → Prop} (G : zGok g) (hr : shRd w A tq nq) (kw : kWd g wa wv kq) (ko : kWo g ca wa wv ta sm gq gv) (htp : tpR B n f A tq) (htk : tkR ca B n f v A p) (hx : x.toInt = 0) (hol : (f A 10).toInt = if lm = 5 then 1 else 0) (hu : (f A 9).toInt = (u : Nat)) (hup : u ≤ p) (hQ : ∀ (b : Int32) v2 f2_z, frM A [8] [2, 3, 4, 5, 9, 11, 12] f f2_z → ((unP B n (if lm = 5 then 8 else 6) 6 p).1 = 0 → b.toInt = 1 ∧ tkR ca B n f2_z v2 A (unP B n (if lm = 5 then 8 else 6) 6 p).2.1 ∧ okR f f2_z A u (unP B n (if lm = 5 then 8 else 6) 6 p).2.2) → ((unP B n (if lm = 5 then 8 else 6) 6 p).1 ≠ 0 → b.toInt = 0 ∧ flR f2_z A (unP B n (if lm = 5 then 8 else 6) 6 p).1 (unP B n (if lm = 5 then 8 else 6) 6 p).2.1) → Q (some (.int b)) (zM (wW w A v2) f2_z j)) : zC g 64 yX5_readUnit cX5_readUnit 3 (some .boolean) [.ref A, .int x] (zM (wW w A v) f j) (0, 0) Q QX := by
  refine zC_of G (by decide +kernel) (Nat.le_of_ble_eq_true rfl) ?_
  have ht := hr.2.2.2.2.2.2
  have h4 := htk.2.2.2.1
  have hpn := htk.1
  have h900 := htp.2.1
  have hsm : ∀ s, s ≤ n → gdP n false (if lm = 5 then 8 else 6) (1 + 2 * 6 + 2) s (smP B n (if lm = 5 then 8 else 6) 6 s) := fun s hs9 => gd_su (gd_at (by split <;> decide) 6) hs9
  by_cases hw : isWd B n p 8 = true
  · have hv : unP B n (if lm = 5 then 8 else 6) 6 p = noP ((unP B n (if lm = 5 then 8 else 6) 5) (nxP B n p)) := if_pos hw
    rw [hv] at hQ
    have hwt := isWd_tk hw
    have hln := tk_lt (B := B) (n := n) (s := p) (by rw [hwt.1]; decide)
    have hnx := nxP_gt (B := B) hln
    have hgu : gdP n true (if lm = 5 then 8 else 6) (4 + 2 * 5) (nxP B n p) ((unP B n (if lm = 5 then 8 else 6) 5) (nxP B n p)) := gd_un (by split <;> decide) 5 _ hnx.2
    by_cases hq : ((unP B n (if lm = 5 then 8 else 6) 5) (nxP B n p)).1 = 0
    · have hv2 : noP ((unP B n (if lm = 5 then 8 else 6) 5) (nxP B n p)) = (0, ((unP B n (if lm = 5 then 8 else 6) 5) (nxP B n p)).2.1, ((unP B n (if lm = 5 then 8 else 6) 5) (nxP B n p)).2.2 ++ [2000]) := if_neg (not_not_intro hq)
      rw [hv2] at hQ
      obtain ⟨y1, y2, y3, y4⟩ := hgu.1 hq
      refine r_aloadR0 dX5_readUnit_0 ?_
      refine k_gets (ko.2.1 ("NOT", 8) (List.mem_of_getElem? (i := 4) rfl)) zg_RX5_182 dX5_readUnit_1 ?_
      refine q_callV1 zm_RX5_170 dX5_readUnit_4 hr.1 (by decide) rfl (Nat.le_of_ble_eq_true rfl) (Nat.le_of_ble_eq_true rfl) (Nat.le_of_ble_eq_true rfl) (Nat.le_of_ble_eq_true rfl) (Nat.le_of_ble_eq_true rfl) (s_X5_isWord (i := 8) G hr kw ko (by decide) htk (fun r4 e4_z => ?_))
      have e4b : r4.toInt = 1 := e4_z.elim (fun h_z => h_z.1) (fun h_z => absurd hw h_z.2)
      refine t_ifeq (t := 39) dX5_readUnit_7 (by decide) (fun h7 => False.elim (by omega)) (fun h7 => ?_)
      refine r_aloadR0 dX5_readUnit_10 ?_
      refine r_iload1 dX5_readUnit_11 ?_
      refine q_callV1 zm_RX5_185 dX5_readUnit_12 hr.1 (by decide) rfl (Nat.le_of_ble_eq_true rfl) (Nat.le_of_ble_eq_true rfl) (Nat.le_of_ble_eq_true rfl) (Nat.le_of_ble_eq_true rfl) (Nat.le_of_ble_eq_true rfl) (s_X5_goDeeper (d := 0) G hr kw ko htp hx htk (fun rd vd gd od ad bd => ?_))
      obtain ⟨cd, td⟩ := ad (by decide)
      have htpd := tpR_of htp ht od (by decide)
      have wd : gd (A + 8) = f (A + 8) := od.2.1 8 (by decide) (by decide) (by decide)
      refine t_ifeq (t := 28) dX5_readUnit_15 (by decide) (fun h15 => False.elim (by omega)) (fun h15 => ?_)
      refine r_aloadR0 dX5_readUnit_18 ?_
      refine r_iload1 dX5_readUnit_19 ?_
      refine n_iconst dX5_readUnit_20 (by decide) (fun r20 e20 => ?_)
      refine n_iadd dX5_readUnit_21 (by omega) (fun r21 e21_z => ?_)
      refine q_callV1 zm_RX5_176 dX5_readUnit_22 hr.1 (by decide) rfl (Nat.le_of_ble_eq_true rfl) (Nat.le_of_ble_eq_true rfl) (Nat.le_of_ble_eq_true rfl) (Nat.le_of_ble_eq_true rfl) (Nat.le_of_ble_eq_true rfl) (s_X5_readUnit_5 (lm := lm) (u := u) G hr kw ko htpd td (by omega) (by rw [od.2.2 10 (by decide)]; exact hol) (by rw [od.2.2 9 (by decide)]; exact hu) (by omega) (fun rs vs gs os as bs => ?_))
      have as2 : ((unP B n (if lm = 5 then 8 else 6) 5) (nxP B n p)).1 = 0 → rs.toInt = 1 ∧ tkR ca B n gs vs A ((unP B n (if lm = 5 then 8 else 6) 5) (nxP B n p)).2.1 ∧ okR gd gs A u ((unP B n (if lm = 5 then 8 else 6) 5) (nxP B n p)).2.2 := as
      have bs2 : ((unP B n (if lm = 5 then 8 else 6) 5) (nxP B n p)).1 ≠ 0 → rs.toInt = 0 ∧ flR gs A ((unP B n (if lm = 5 then 8 else 6) 5) (nxP B n p)).1 ((unP B n (if lm = 5 then 8 else 6) 5) (nxP B n p)).2.1 := bs
      have ofs : frM A [8] [2, 3, 4, 5, 9, 11, 12] f gs := frM_tr (frM_su od (by decide) (by decide)) os
      obtain ⟨cs, ts, ks⟩ := as2 hq
      refine t_ifne (t := 30) dX5_readUnit_25 (by decide) (fun h25 => ?_) (fun h25 => False.elim (by omega))
      refine r_aloadR0 dX5_readUnit_30 ?_
      refine n_sipush dX5_readUnit_31 (by decide) (fun r31 e31_z => ?_)
      refine q_callV1 zm_RX5_173 dX5_readUnit_34 hr.1 (by decide) rfl (Nat.le_of_ble_eq_true rfl) (Nat.le_of_ble_eq_true rfl) (Nat.le_of_ble_eq_true rfl) (Nat.le_of_ble_eq_true rfl) (Nat.le_of_ble_eq_true rfl) (s_X5_emit (u := u + ((unP B n (if lm = 5 then 8 else 6) 5) (nxP B n p)).2.2.length) G hr ks.1 (by omega) (fun g34 o34 a34 b34 c34 => ?_))
      refine n_iconst dX5_readUnit_37 (by decide) (fun r37 e37 => ?_)
      refine m_zret dX5_readUnit_38 rfl (by omega) (Nat.le_of_ble_eq_true rfl) (Nat.le_of_ble_eq_true rfl) ?_
      exact hQ _ _ g34 (frM_tr ofs (frM_su o34 (by decide) (by decide))) (fun _ => ⟨e37, tkR_of ts o34 (by decide) (by decide) (by decide) (by decide), okR_ap (okR_cg ks wd rfl rfl) (okR_one a34 b34 c34 (by omega))⟩) (fun h_z => absurd rfl h_z)
    · have hv2 : noP ((unP B n (if lm = 5 then 8 else 6) 5) (nxP B n p)) = ((unP B n (if lm = 5 then 8 else 6) 5) (nxP B n p)) := if_pos hq
      rw [hv2] at hQ
      refine r_aloadR0 dX5_readUnit_0 ?_
      refine k_gets (ko.2.1 ("NOT", 8) (List.mem_of_getElem? (i := 4) rfl)) zg_RX5_182 dX5_readUnit_1 ?_
      refine q_callV1 zm_RX5_170 dX5_readUnit_4 hr.1 (by decide) rfl (Nat.le_of_ble_eq_true rfl) (Nat.le_of_ble_eq_true rfl) (Nat.le_of_ble_eq_true rfl) (Nat.le_of_ble_eq_true rfl) (Nat.le_of_ble_eq_true rfl) (s_X5_isWord (i := 8) G hr kw ko (by decide) htk (fun r4 e4_z => ?_))
      have e4b : r4.toInt = 1 := e4_z.elim (fun h_z => h_z.1) (fun h_z => absurd hw h_z.2)
      refine t_ifeq (t := 39) dX5_readUnit_7 (by decide) (fun h7 => False.elim (by omega)) (fun h7 => ?_)
      refine r_aloadR0 dX5_readUnit_10 ?_
      refine r_iload1 dX5_readUnit_11 ?_
      refine q_callV1 zm_RX5_185 dX5_readUnit_12 hr.1 (by decide) rfl (Nat.le_of_ble_eq_true rfl) (Nat.le_of_ble_eq_true rfl) (Nat.le_of_ble_eq_true rfl) (Nat.le_of_ble_eq_true rfl) (Nat.le_of_ble_eq_true rfl) (s_X5_goDeeper (d := 0) G hr kw ko htp hx htk (fun rd vd gd od ad bd => ?_))
      obtain ⟨cd, td⟩ := ad (by decide)
      have htpd := tpR_of htp ht od (by decide)
      have wd : gd (A + 8) = f (A + 8) := od.2.1 8 (by decide) (by decide) (by decide)
      refine t_ifeq (t := 28) dX5_readUnit_15 (by decide) (fun h15 => False.elim (by omega)) (fun h15 => ?_)
      refine r_aloadR0 dX5_readUnit_18 ?_
      refine r_iload1 dX5_readUnit_19 ?_
      refine n_iconst dX5_readUnit_20 (by decide) (fun r20 e20 => ?_)
      refine n_iadd dX5_readUnit_21 (by omega) (fun r21 e21_z => ?_)
      refine q_callV1 zm_RX5_176 dX5_readUnit_22 hr.1 (by decide) rfl (Nat.le_of_ble_eq_true rfl) (Nat.le_of_ble_eq_true rfl) (Nat.le_of_ble_eq_true rfl) (Nat.le_of_ble_eq_true rfl) (Nat.le_of_ble_eq_true rfl) (s_X5_readUnit_5 (lm := lm) (u := u) G hr kw ko htpd td (by omega) (by rw [od.2.2 10 (by decide)]; exact hol) (by rw [od.2.2 9 (by decide)]; exact hu) (by omega) (fun rs vs gs os as bs => ?_))
      have as2 : ((unP B n (if lm = 5 then 8 else 6) 5) (nxP B n p)).1 = 0 → rs.toInt = 1 ∧ tkR ca B n gs vs A ((unP B n (if lm = 5 then 8 else 6) 5) (nxP B n p)).2.1 ∧ okR gd gs A u ((unP B n (if lm = 5 then 8 else 6) 5) (nxP B n p)).2.2 := as
      have bs2 : ((unP B n (if lm = 5 then 8 else 6) 5) (nxP B n p)).1 ≠ 0 → rs.toInt = 0 ∧ flR gs A ((unP B n (if lm = 5 then 8 else 6) 5) (nxP B n p)).1 ((unP B n (if lm = 5 then 8 else 6) 5) (nxP B n p)).2.1 := bs
      have ofs : frM A [8] [2, 3, 4, 5, 9, 11, 12] f gs := frM_tr (frM_su od (by decide) (by decide)) os
      obtain ⟨cs, ls⟩ := bs2 hq
      refine t_ifne (t := 30) dX5_readUnit_25 (by decide) (fun h25 => False.elim (by omega)) (fun h25 => ?_)
      refine n_iconst dX5_readUnit_28 (by decide) (fun r28 e28_z => ?_)
      refine m_zret dX5_readUnit_29 rfl (by omega) (Nat.le_of_ble_eq_true rfl) (Nat.le_of_ble_eq_true rfl) ?_
      exact hQ _ _ gs ofs (fun h_z => absurd h_z hq) (fun _ => ⟨e28_z, ls⟩)
  by_cases hp : tkP B n p = 91
  · have hv : unP B n (if lm = 5 then 8 else 6) 6 p = clP B n 93 (trU B n (unP B n (if lm = 5 then 8 else 6) 5) (nxP B n p)) := (if_neg hw).trans (if_pos hp)
    rw [hv] at hQ
    have hln := tk_lt (B := B) (n := n) (s := p) (by rw [hp]; decide)
    have hnx := nxP_gt (B := B) hln
    by_cases hq : (trU B n (unP B n (if lm = 5 then 8 else 6) 5) (nxP B n p)).1 = 0
    · by_cases h93 : tkP B n (trU B n (unP B n (if lm = 5 then 8 else 6) 5) (nxP B n p)).2.1 = 93
      · have hv2 : clP B n 93 (trU B n (unP B n (if lm = 5 then 8 else 6) 5) (nxP B n p)) = (0, nxP B n (trU B n (unP B n (if lm = 5 then 8 else 6) 5) (nxP B n p)).2.1, (trU B n (unP B n (if lm = 5 then 8 else 6) 5) (nxP B n p)).2.2) := (if_neg (not_not_intro hq)).trans (if_pos h93)
        rw [hv2] at hQ
        refine r_aloadR0 dX5_readUnit_0 ?_
        refine k_gets (ko.2.1 ("NOT", 8) (List.mem_of_getElem? (i := 4) rfl)) zg_RX5_182 dX5_readUnit_1 ?_
        refine q_callV1 zm_RX5_170 dX5_readUnit_4 hr.1 (by decide) rfl (Nat.le_of_ble_eq_true rfl) (Nat.le_of_ble_eq_true rfl) (Nat.le_of_ble_eq_true rfl) (Nat.le_of_ble_eq_true rfl) (Nat.le_of_ble_eq_true rfl) (s_X5_isWord (i := 8) G hr kw ko (by decide) htk (fun r4 e4_z => ?_))
        have e4b : r4.toInt = 0 := e4_z.elim (fun h_z => absurd h_z.2 hw) (fun h_z => h_z.1)
        refine t_ifeq (t := 39) dX5_readUnit_7 (by decide) (fun h7 => ?_) (fun h7 => False.elim (by omega))
        refine r_aloadR0 dX5_readUnit_39 ?_
        refine m_getV (x := (f A 4)) zf_RX5_25 rfl dX5_readUnit_40 hr.1 (rfl) ?_
        refine n_bipush dX5_readUnit_43 (by decide) (fun r43 e43 => ?_)
        refine t_icne (t := 81) dX5_readUnit_45 (by decide) (fun h45 => False.elim (by omega)) (fun h45 => ?_)
        refine r_aloadR0 dX5_readUnit_48 ?_
        refine r_iload1 dX5_readUnit_49 ?_
        refine q_callV1 zm_RX5_185 dX5_readUnit_50 hr.1 (by decide) rfl (Nat.le_of_ble_eq_true rfl) (Nat.le_of_ble_eq_true rfl) (Nat.le_of_ble_eq_true rfl) (Nat.le_of_ble_eq_true rfl) (Nat.le_of_ble_eq_true rfl) (s_X5_goDeeper (d := 0) G hr kw ko htp hx htk (fun rd vd gd od ad bd => ?_))
        obtain ⟨cd, td⟩ := ad (by decide)
        have htpd := tpR_of htp ht od (by decide)
        have wd : gd (A + 8) = f (A + 8) := od.2.1 8 (by decide) (by decide) (by decide)
        refine t_ifeq (t := 79) dX5_readUnit_53 (by decide) (fun h53 => False.elim (by omega)) (fun h53 => ?_)
        refine r_aloadR0 dX5_readUnit_56 ?_
        refine r_iload1 dX5_readUnit_57 ?_
        refine n_iconst dX5_readUnit_58 (by decide) (fun r58 e58 => ?_)
        refine n_iadd dX5_readUnit_59 (by omega) (fun r59 e59 => ?_)
        refine q_callV1 zm_RX5_143 dX5_readUnit_60 hr.1 (by decide) rfl (Nat.le_of_ble_eq_true rfl) (Nat.le_of_ble_eq_true rfl) (Nat.le_of_ble_eq_true rfl) (Nat.le_of_ble_eq_true rfl) (Nat.le_of_ble_eq_true rfl) (s_X5_readTruth_5 (lm := lm) (u := u) G hr kw ko htpd td (by omega) (by rw [od.2.2 10 (by decide)]; exact hol) (by rw [od.2.2 9 (by decide)]; exact hu) (by omega) (fun rs vs gs os as bs => ?_))
        have as2 : (trU B n (unP B n (if lm = 5 then 8 else 6) 5) (nxP B n p)).1 = 0 → rs.toInt = 1 ∧ tkR ca B n gs vs A (trU B n (unP B n (if lm = 5 then 8 else 6) 5) (nxP B n p)).2.1 ∧ okR gd gs A u (trU B n (unP B n (if lm = 5 then 8 else 6) 5) (nxP B n p)).2.2 := as
        have bs2 : (trU B n (unP B n (if lm = 5 then 8 else 6) 5) (nxP B n p)).1 ≠ 0 → rs.toInt = 0 ∧ flR gs A (trU B n (unP B n (if lm = 5 then 8 else 6) 5) (nxP B n p)).1 (trU B n (unP B n (if lm = 5 then 8 else 6) 5) (nxP B n p)).2.1 := bs
        have ofs : frM A [8] [2, 3, 4, 5, 9, 11, 12] f gs := frM_tr (frM_su od (by decide) (by decide)) os
        obtain ⟨cs, ts, ks⟩ := as2 hq
        refine t_ifeq (t := 79) dX5_readUnit_63 (by decide) (fun h63 => False.elim (by omega)) (fun h63 => ?_)
        refine r_aloadR0 dX5_readUnit_66 ?_
        refine n_bipush dX5_readUnit_67 (by decide) (fun r67 e67 => ?_)
        refine q_callV1 zm_RX5_102 dX5_readUnit_69 hr.1 (by decide) rfl (Nat.le_of_ble_eq_true rfl) (Nat.le_of_ble_eq_true rfl) (Nat.le_of_ble_eq_true rfl) (Nat.le_of_ble_eq_true rfl) (Nat.le_of_ble_eq_true rfl) (s_X5_takeSign (s := (trU B n (unP B n (if lm = 5 then 8 else 6) 5) (nxP B n p)).2.1) (c := 93) G hr kw ko (tpR_of htp ht ofs (by decide)) e67 ts (fun r69 v69 g69 o69 a69 b69 => ?_))
        obtain ⟨c69, t69⟩ := a69 h93
        refine t_ifeq (t := 79) dX5_readUnit_72 (by decide) (fun h72 => False.elim (by omega)) (fun h72 => ?_)
        refine n_iconst dX5_readUnit_75 (by decide) (fun r75 e75 => ?_)
        refine r_goto (t := 80) dX5_readUnit_76 (by decide) ?_
        refine m_zret dX5_readUnit_80 rfl (by omega) (Nat.le_of_ble_eq_true rfl) (Nat.le_of_ble_eq_true rfl) ?_
        exact hQ _ _ g69 (frM_tr ofs (frM_su o69 (by decide) (by decide))) (fun _ => ⟨e75, t69, okR_cg ks wd (o69.2.1 8 (by decide) (by decide) (by decide)) (o69.2.2 9 (by decide))⟩) (fun h_z => absurd rfl h_z)
      · have hv2 : clP B n 93 (trU B n (unP B n (if lm = 5 then 8 else 6) 5) (nxP B n p)) = (baP B n (trU B n (unP B n (if lm = 5 then 8 else 6) 5) (nxP B n p)).2.1, (trU B n (unP B n (if lm = 5 then 8 else 6) 5) (nxP B n p)).2.1, []) := (if_neg (not_not_intro hq)).trans (if_neg h93)
        rw [hv2] at hQ
        refine r_aloadR0 dX5_readUnit_0 ?_
        refine k_gets (ko.2.1 ("NOT", 8) (List.mem_of_getElem? (i := 4) rfl)) zg_RX5_182 dX5_readUnit_1 ?_
        refine q_callV1 zm_RX5_170 dX5_readUnit_4 hr.1 (by decide) rfl (Nat.le_of_ble_eq_true rfl) (Nat.le_of_ble_eq_true rfl) (Nat.le_of_ble_eq_true rfl) (Nat.le_of_ble_eq_true rfl) (Nat.le_of_ble_eq_true rfl) (s_X5_isWord (i := 8) G hr kw ko (by decide) htk (fun r4 e4_z => ?_))
        have e4b : r4.toInt = 0 := e4_z.elim (fun h_z => absurd h_z.2 hw) (fun h_z => h_z.1)
        refine t_ifeq (t := 39) dX5_readUnit_7 (by decide) (fun h7 => ?_) (fun h7 => False.elim (by omega))
        refine r_aloadR0 dX5_readUnit_39 ?_
        refine m_getV (x := (f A 4)) zf_RX5_25 rfl dX5_readUnit_40 hr.1 (rfl) ?_
        refine n_bipush dX5_readUnit_43 (by decide) (fun r43 e43 => ?_)
        refine t_icne (t := 81) dX5_readUnit_45 (by decide) (fun h45 => False.elim (by omega)) (fun h45 => ?_)
        refine r_aloadR0 dX5_readUnit_48 ?_
        refine r_iload1 dX5_readUnit_49 ?_
        refine q_callV1 zm_RX5_185 dX5_readUnit_50 hr.1 (by decide) rfl (Nat.le_of_ble_eq_true rfl) (Nat.le_of_ble_eq_true rfl) (Nat.le_of_ble_eq_true rfl) (Nat.le_of_ble_eq_true rfl) (Nat.le_of_ble_eq_true rfl) (s_X5_goDeeper (d := 0) G hr kw ko htp hx htk (fun rd vd gd od ad bd => ?_))
        obtain ⟨cd, td⟩ := ad (by decide)
        have htpd := tpR_of htp ht od (by decide)
        have wd : gd (A + 8) = f (A + 8) := od.2.1 8 (by decide) (by decide) (by decide)
        refine t_ifeq (t := 79) dX5_readUnit_53 (by decide) (fun h53 => False.elim (by omega)) (fun h53 => ?_)
        refine r_aloadR0 dX5_readUnit_56 ?_
        refine r_iload1 dX5_readUnit_57 ?_
        refine n_iconst dX5_readUnit_58 (by decide) (fun r58 e58 => ?_)
        refine n_iadd dX5_readUnit_59 (by omega) (fun r59 e59 => ?_)
        refine q_callV1 zm_RX5_143 dX5_readUnit_60 hr.1 (by decide) rfl (Nat.le_of_ble_eq_true rfl) (Nat.le_of_ble_eq_true rfl) (Nat.le_of_ble_eq_true rfl) (Nat.le_of_ble_eq_true rfl) (Nat.le_of_ble_eq_true rfl) (s_X5_readTruth_5 (lm := lm) (u := u) G hr kw ko htpd td (by omega) (by rw [od.2.2 10 (by decide)]; exact hol) (by rw [od.2.2 9 (by decide)]; exact hu) (by omega) (fun rs vs gs os as bs => ?_))
        have as2 : (trU B n (unP B n (if lm = 5 then 8 else 6) 5) (nxP B n p)).1 = 0 → rs.toInt = 1 ∧ tkR ca B n gs vs A (trU B n (unP B n (if lm = 5 then 8 else 6) 5) (nxP B n p)).2.1 ∧ okR gd gs A u (trU B n (unP B n (if lm = 5 then 8 else 6) 5) (nxP B n p)).2.2 := as
        have bs2 : (trU B n (unP B n (if lm = 5 then 8 else 6) 5) (nxP B n p)).1 ≠ 0 → rs.toInt = 0 ∧ flR gs A (trU B n (unP B n (if lm = 5 then 8 else 6) 5) (nxP B n p)).1 (trU B n (unP B n (if lm = 5 then 8 else 6) 5) (nxP B n p)).2.1 := bs
        have ofs : frM A [8] [2, 3, 4, 5, 9, 11, 12] f gs := frM_tr (frM_su od (by decide) (by decide)) os
        obtain ⟨cs, ts, ks⟩ := as2 hq
        refine t_ifeq (t := 79) dX5_readUnit_63 (by decide) (fun h63 => False.elim (by omega)) (fun h63 => ?_)
        refine r_aloadR0 dX5_readUnit_66 ?_
        refine n_bipush dX5_readUnit_67 (by decide) (fun r67 e67 => ?_)
        refine q_callV1 zm_RX5_102 dX5_readUnit_69 hr.1 (by decide) rfl (Nat.le_of_ble_eq_true rfl) (Nat.le_of_ble_eq_true rfl) (Nat.le_of_ble_eq_true rfl) (Nat.le_of_ble_eq_true rfl) (Nat.le_of_ble_eq_true rfl) (s_X5_takeSign (s := (trU B n (unP B n (if lm = 5 then 8 else 6) 5) (nxP B n p)).2.1) (c := 93) G hr kw ko (tpR_of htp ht ofs (by decide)) e67 ts (fun r69 v69 g69 o69 a69 b69 => ?_))
        obtain ⟨c69, l69⟩ := b69 h93
        refine t_ifeq (t := 79) dX5_readUnit_72 (by decide) (fun h72 => ?_) (fun h72 => False.elim (by omega))
        refine n_iconst dX5_readUnit_79 (by decide) (fun r79 e79 => ?_)
        refine m_zret dX5_readUnit_80 rfl (by omega) (Nat.le_of_ble_eq_true rfl) (Nat.le_of_ble_eq_true rfl) ?_
        exact hQ _ _ g69 (frM_tr ofs (frM_su o69 (by decide) (by decide))) (fun h_z => absurd h_z ba_bd.1) (fun _ => ⟨e79, l69⟩)
    · have hv2 : clP B n 93 (trU B n (unP B n (if lm = 5 then 8 else 6) 5) (nxP B n p)) = (trU B n (unP B n (if lm = 5 then 8 else 6) 5) (nxP B n p)) := if_pos hq
      rw [hv2] at hQ
      refine r_aloadR0 dX5_readUnit_0 ?_
      refine k_gets (ko.2.1 ("NOT", 8) (List.mem_of_getElem? (i := 4) rfl)) zg_RX5_182 dX5_readUnit_1 ?_
      refine q_callV1 zm_RX5_170 dX5_readUnit_4 hr.1 (by decide) rfl (Nat.le_of_ble_eq_true rfl) (Nat.le_of_ble_eq_true rfl) (Nat.le_of_ble_eq_true rfl) (Nat.le_of_ble_eq_true rfl) (Nat.le_of_ble_eq_true rfl) (s_X5_isWord (i := 8) G hr kw ko (by decide) htk (fun r4 e4_z => ?_))
      have e4b : r4.toInt = 0 := e4_z.elim (fun h_z => absurd h_z.2 hw) (fun h_z => h_z.1)
      refine t_ifeq (t := 39) dX5_readUnit_7 (by decide) (fun h7 => ?_) (fun h7 => False.elim (by omega))
      refine r_aloadR0 dX5_readUnit_39 ?_
      refine m_getV (x := (f A 4)) zf_RX5_25 rfl dX5_readUnit_40 hr.1 (rfl) ?_
      refine n_bipush dX5_readUnit_43 (by decide) (fun r43 e43 => ?_)
      refine t_icne (t := 81) dX5_readUnit_45 (by decide) (fun h45 => False.elim (by omega)) (fun h45 => ?_)
      refine r_aloadR0 dX5_readUnit_48 ?_
      refine r_iload1 dX5_readUnit_49 ?_
      refine q_callV1 zm_RX5_185 dX5_readUnit_50 hr.1 (by decide) rfl (Nat.le_of_ble_eq_true rfl) (Nat.le_of_ble_eq_true rfl) (Nat.le_of_ble_eq_true rfl) (Nat.le_of_ble_eq_true rfl) (Nat.le_of_ble_eq_true rfl) (s_X5_goDeeper (d := 0) G hr kw ko htp hx htk (fun rd vd gd od ad bd => ?_))
      obtain ⟨cd, td⟩ := ad (by decide)
      have htpd := tpR_of htp ht od (by decide)
      have wd : gd (A + 8) = f (A + 8) := od.2.1 8 (by decide) (by decide) (by decide)
      refine t_ifeq (t := 79) dX5_readUnit_53 (by decide) (fun h53 => False.elim (by omega)) (fun h53 => ?_)
      refine r_aloadR0 dX5_readUnit_56 ?_
      refine r_iload1 dX5_readUnit_57 ?_
      refine n_iconst dX5_readUnit_58 (by decide) (fun r58 e58 => ?_)
      refine n_iadd dX5_readUnit_59 (by omega) (fun r59 e59 => ?_)
      refine q_callV1 zm_RX5_143 dX5_readUnit_60 hr.1 (by decide) rfl (Nat.le_of_ble_eq_true rfl) (Nat.le_of_ble_eq_true rfl) (Nat.le_of_ble_eq_true rfl) (Nat.le_of_ble_eq_true rfl) (Nat.le_of_ble_eq_true rfl) (s_X5_readTruth_5 (lm := lm) (u := u) G hr kw ko htpd td (by omega) (by rw [od.2.2 10 (by decide)]; exact hol) (by rw [od.2.2 9 (by decide)]; exact hu) (by omega) (fun rs vs gs os as bs => ?_))
      have as2 : (trU B n (unP B n (if lm = 5 then 8 else 6) 5) (nxP B n p)).1 = 0 → rs.toInt = 1 ∧ tkR ca B n gs vs A (trU B n (unP B n (if lm = 5 then 8 else 6) 5) (nxP B n p)).2.1 ∧ okR gd gs A u (trU B n (unP B n (if lm = 5 then 8 else 6) 5) (nxP B n p)).2.2 := as
      have bs2 : (trU B n (unP B n (if lm = 5 then 8 else 6) 5) (nxP B n p)).1 ≠ 0 → rs.toInt = 0 ∧ flR gs A (trU B n (unP B n (if lm = 5 then 8 else 6) 5) (nxP B n p)).1 (trU B n (unP B n (if lm = 5 then 8 else 6) 5) (nxP B n p)).2.1 := bs
      have ofs : frM A [8] [2, 3, 4, 5, 9, 11, 12] f gs := frM_tr (frM_su od (by decide) (by decide)) os
      obtain ⟨cs, ls⟩ := bs2 hq
      refine t_ifeq (t := 79) dX5_readUnit_63 (by decide) (fun h63 => ?_) (fun h63 => False.elim (by omega))
      refine n_iconst dX5_readUnit_79 (by decide) (fun r79 e79 => ?_)
      refine m_zret dX5_readUnit_80 rfl (by omega) (Nat.le_of_ble_eq_true rfl) (Nat.le_of_ble_eq_true rfl) ?_
      exact hQ _ _ gs ofs (fun h_z => absurd h_z hq) (fun _ => ⟨e79, ls⟩)
  have hv0 : unP B n (if lm = 5 then 8 else 6) 6 p = cmP B n (smP B n (if lm = 5 then 8 else 6) 6) p := (if_neg hw).trans (if_neg hp)
  rw [hv0] at hQ
  by_cases hq : (smP B n (if lm = 5 then 8 else 6) 6 p).1 = 0
  · obtain ⟨y1, y2, y3, y4⟩ := (hsm p hpn).1 hq
    by_cases hop : opC B n (smP B n (if lm = 5 then 8 else 6) 6 p).2.1 = 0
    · have hv : cmP B n (smP B n (if lm = 5 then 8 else 6) 6) p = (baP B n (smP B n (if lm = 5 then 8 else 6) 6 p).2.1, (smP B n (if lm = 5 then 8 else 6) 6 p).2.1, []) := (if_neg (not_not_intro hq)).trans (if_pos hop)
      rw [hv] at hQ
      have hba := ba_bd (B := B) (n := n) (s := (smP B n (if lm = 5 then 8 else 6) 6 p).2.1)
      refine r_aloadR0 dX5_readUnit_0 ?_
      refine k_gets (ko.2.1 ("NOT", 8) (List.mem_of_getElem? (i := 4) rfl)) zg_RX5_182 dX5_readUnit_1 ?_
      refine q_callV1 zm_RX5_170 dX5_readUnit_4 hr.1 (by decide) rfl (Nat.le_of_ble_eq_true rfl) (Nat.le_of_ble_eq_true rfl) (Nat.le_of_ble_eq_true rfl) (Nat.le_of_ble_eq_true rfl) (Nat.le_of_ble_eq_true rfl) (s_X5_isWord (i := 8) G hr kw ko (by decide) htk (fun r4 e4_z => ?_))
      have e4b : r4.toInt = 0 := e4_z.elim (fun h_z => absurd h_z.2 hw) (fun h_z => h_z.1)
      refine t_ifeq (t := 39) dX5_readUnit_7 (by decide) (fun h7 => ?_) (fun h7 => False.elim (by omega))
      refine r_aloadR0 dX5_readUnit_39 ?_
      refine m_getV (x := (f A 4)) zf_RX5_25 rfl dX5_readUnit_40 hr.1 (rfl) ?_
      refine n_bipush dX5_readUnit_43 (by decide) (fun r43 e43 => ?_)
      refine t_icne (t := 81) dX5_readUnit_45 (by decide) (fun h45 => ?_) (fun h45 => False.elim (by omega))
      refine r_aloadR0 dX5_readUnit_81 ?_
      refine r_iload1 dX5_readUnit_82 ?_
      refine q_callV1 zm_RX5_146 dX5_readUnit_83 hr.1 (by decide) rfl (Nat.le_of_ble_eq_true rfl) (Nat.le_of_ble_eq_true rfl) (Nat.le_of_ble_eq_true rfl) (Nat.le_of_ble_eq_true rfl) (Nat.le_of_ble_eq_true rfl) (s_X5_readSum_6 (lm := lm) (u := u) G hr kw ko htp htk hx hol hu hup (fun r83 v83 g83 o83 a83 b83 => ?_))
      have a83b : (smP B n (if lm = 5 then 8 else 6) 6 p).1 = 0 → r83.toInt = 1 ∧ tkR ca B n g83 v83 A (smP B n (if lm = 5 then 8 else 6) 6 p).2.1 ∧ okR f g83 A u (smP B n (if lm = 5 then 8 else 6) 6 p).2.2 := a83
      have b83b : (smP B n (if lm = 5 then 8 else 6) 6 p).1 ≠ 0 → r83.toInt = 0 ∧ flR g83 A (smP B n (if lm = 5 then 8 else 6) 6 p).1 (smP B n (if lm = 5 then 8 else 6) 6 p).2.1 := b83
      obtain ⟨c83, t83, k83⟩ := a83b hq
      have htp83 := tpR_of htp ht o83 (by decide)
      refine t_ifne (t := 91) dX5_readUnit_86 (by decide) (fun h86 => ?_) (fun h86 => False.elim (by omega))
      refine r_aloadR0 dX5_readUnit_91 ?_
      refine q_callV0 zm_RX5_188 dX5_readUnit_92 hr.1 (by decide) rfl (Nat.le_of_ble_eq_true rfl) (Nat.le_of_ble_eq_true rfl) (Nat.le_of_ble_eq_true rfl) (Nat.le_of_ble_eq_true rfl) (Nat.le_of_ble_eq_true rfl) (s_X5_comparing (n := n) (B := B) (s := (smP B n (if lm = 5 then 8 else 6) 6 p).2.1) G hr t83 (fun r92 a92 b92 => ?_))
      have e92_z := a92 hop
      refine r_istore2 dX5_readUnit_95 rfl ?_
      refine r_iload2 dX5_readUnit_96 ?_
      refine n_iconst dX5_readUnit_97 (by decide) (fun r97 e97_z => ?_)
      refine t_icne (t := 106) dX5_readUnit_98 (by decide) (fun h98 => False.elim (by omega)) (fun h98 => ?_)
      refine r_aloadR0 dX5_readUnit_101 ?_
      refine q_callV0 zm_RX5_80 dX5_readUnit_102 hr.1 (by decide) rfl (Nat.le_of_ble_eq_true rfl) (Nat.le_of_ble_eq_true rfl) (Nat.le_of_ble_eq_true rfl) (Nat.le_of_ble_eq_true rfl) (Nat.le_of_ble_eq_true rfl) (s_X5_refuseToken G hr t83 (fun r102 g102 e102_z o102 l102 => ?_))
      refine m_zret dX5_readUnit_105 rfl (by omega) (Nat.le_of_ble_eq_true rfl) (Nat.le_of_ble_eq_true rfl) ?_
      exact hQ _ _ g102 (frM_tr o83 (frM_su o102 (by decide) (by decide))) (fun h_z => absurd h_z hba.1) (fun _ => ⟨e102_z, l102⟩)
    · have hcb := (hop_C (B := B) (n := n) _ hop)
      have hnx := nxP_gt (B := B) hcb.1
      have hge : 2000 ≤ opC B n (smP B n (if lm = 5 then 8 else 6) 6 p).2.1 := by rcases hcb.2 with ⟨_, _, h_z⟩ | ⟨_, _, h_z⟩ | ⟨_, _, h_z⟩ <;> omega
      by_cases hq2 : (smP B n (if lm = 5 then 8 else 6) 6 (nxP B n (smP B n (if lm = 5 then 8 else 6) 6 p).2.1)).1 = 0
      · obtain ⟨z1, z2, z3, z4⟩ := (hsm _ hnx.2).1 hq2
        have hv : cmP B n (smP B n (if lm = 5 then 8 else 6) 6) p = (0, (smP B n (if lm = 5 then 8 else 6) 6 (nxP B n (smP B n (if lm = 5 then 8 else 6) 6 p).2.1)).2.1, (smP B n (if lm = 5 then 8 else 6) 6 p).2.2 ++ (smP B n (if lm = 5 then 8 else 6) 6 (nxP B n (smP B n (if lm = 5 then 8 else 6) 6 p).2.1)).2.2 ++ [opC B n (smP B n (if lm = 5 then 8 else 6) 6 p).2.1]) := (if_neg (not_not_intro hq)).trans ((if_neg hop).trans (if_neg (not_not_intro hq2)))
        rw [hv] at hQ
        refine r_aloadR0 dX5_readUnit_0 ?_
        refine k_gets (ko.2.1 ("NOT", 8) (List.mem_of_getElem? (i := 4) rfl)) zg_RX5_182 dX5_readUnit_1 ?_
        refine q_callV1 zm_RX5_170 dX5_readUnit_4 hr.1 (by decide) rfl (Nat.le_of_ble_eq_true rfl) (Nat.le_of_ble_eq_true rfl) (Nat.le_of_ble_eq_true rfl) (Nat.le_of_ble_eq_true rfl) (Nat.le_of_ble_eq_true rfl) (s_X5_isWord (i := 8) G hr kw ko (by decide) htk (fun r4 e4_z => ?_))
        have e4b : r4.toInt = 0 := e4_z.elim (fun h_z => absurd h_z.2 hw) (fun h_z => h_z.1)
        refine t_ifeq (t := 39) dX5_readUnit_7 (by decide) (fun h7 => ?_) (fun h7 => False.elim (by omega))
        refine r_aloadR0 dX5_readUnit_39 ?_
        refine m_getV (x := (f A 4)) zf_RX5_25 rfl dX5_readUnit_40 hr.1 (rfl) ?_
        refine n_bipush dX5_readUnit_43 (by decide) (fun r43 e43 => ?_)
        refine t_icne (t := 81) dX5_readUnit_45 (by decide) (fun h45 => ?_) (fun h45 => False.elim (by omega))
        refine r_aloadR0 dX5_readUnit_81 ?_
        refine r_iload1 dX5_readUnit_82 ?_
        refine q_callV1 zm_RX5_146 dX5_readUnit_83 hr.1 (by decide) rfl (Nat.le_of_ble_eq_true rfl) (Nat.le_of_ble_eq_true rfl) (Nat.le_of_ble_eq_true rfl) (Nat.le_of_ble_eq_true rfl) (Nat.le_of_ble_eq_true rfl) (s_X5_readSum_6 (lm := lm) (u := u) G hr kw ko htp htk hx hol hu hup (fun r83 v83 g83 o83 a83 b83 => ?_))
        have a83b : (smP B n (if lm = 5 then 8 else 6) 6 p).1 = 0 → r83.toInt = 1 ∧ tkR ca B n g83 v83 A (smP B n (if lm = 5 then 8 else 6) 6 p).2.1 ∧ okR f g83 A u (smP B n (if lm = 5 then 8 else 6) 6 p).2.2 := a83
        have b83b : (smP B n (if lm = 5 then 8 else 6) 6 p).1 ≠ 0 → r83.toInt = 0 ∧ flR g83 A (smP B n (if lm = 5 then 8 else 6) 6 p).1 (smP B n (if lm = 5 then 8 else 6) 6 p).2.1 := b83
        obtain ⟨c83, t83, k83⟩ := a83b hq
        have htp83 := tpR_of htp ht o83 (by decide)
        refine t_ifne (t := 91) dX5_readUnit_86 (by decide) (fun h86 => ?_) (fun h86 => False.elim (by omega))
        refine r_aloadR0 dX5_readUnit_91 ?_
        refine q_callV0 zm_RX5_188 dX5_readUnit_92 hr.1 (by decide) rfl (Nat.le_of_ble_eq_true rfl) (Nat.le_of_ble_eq_true rfl) (Nat.le_of_ble_eq_true rfl) (Nat.le_of_ble_eq_true rfl) (Nat.le_of_ble_eq_true rfl) (s_X5_comparing (n := n) (B := B) (s := (smP B n (if lm = 5 then 8 else 6) 6 p).2.1) G hr t83 (fun r92 a92 b92 => ?_))
        have e92_z := b92 hop
        refine r_istore2 dX5_readUnit_95 rfl ?_
        refine r_iload2 dX5_readUnit_96 ?_
        refine n_iconst dX5_readUnit_97 (by decide) (fun r97 e97_z => ?_)
        refine t_icne (t := 106) dX5_readUnit_98 (by decide) (fun h98 => ?_) (fun h98 => False.elim (by omega))
        refine r_aloadR0 dX5_readUnit_106 ?_
        refine q_callV0 zm_RX5_73 dX5_readUnit_107 hr.1 (by decide) rfl (Nat.le_of_ble_eq_true rfl) (Nat.le_of_ble_eq_true rfl) (Nat.le_of_ble_eq_true rfl) (Nat.le_of_ble_eq_true rfl) (Nat.le_of_ble_eq_true rfl) (s_X5_next (p := teP B n (smP B n (if lm = 5 then 8 else 6) 6 p).2.1) G hr kw ko htp83 t83.2.1 (teP_le t83.1) t83.2.2.2.2.2.2 (fun v107 g107 o107 t107 => ?_))
        have t107 : tkR ca B n g107 v107 A (nxP B n (smP B n (if lm = 5 then 8 else 6) 6 p).2.1) := t107
        have htpn := tpR_of htp83 ht o107 (by decide)
        have wn : g107 (A + 8) = g83 (A + 8) := o107.2.1 8 (by decide) (by decide) (by decide)
        refine r_aloadR0 dX5_readUnit_110 ?_
        refine r_iload1 dX5_readUnit_111 ?_
        refine q_callV1 zm_RX5_146 dX5_readUnit_112 hr.1 (by decide) rfl (Nat.le_of_ble_eq_true rfl) (Nat.le_of_ble_eq_true rfl) (Nat.le_of_ble_eq_true rfl) (Nat.le_of_ble_eq_true rfl) (Nat.le_of_ble_eq_true rfl) (s_X5_readSum_6 (lm := lm) (u := u + (smP B n (if lm = 5 then 8 else 6) 6 p).2.2.length) G hr kw ko htpn t107 hx (by rw [o107.2.2 10 (by decide), o83.2.2 10 (by decide)]; exact hol) (by rw [o107.2.2 9 (by decide)]; exact k83.1) (by omega) (fun rs vs gs os as bs => ?_))
        have as2 : (smP B n (if lm = 5 then 8 else 6) 6 (nxP B n (smP B n (if lm = 5 then 8 else 6) 6 p).2.1)).1 = 0 → rs.toInt = 1 ∧ tkR ca B n gs vs A (smP B n (if lm = 5 then 8 else 6) 6 (nxP B n (smP B n (if lm = 5 then 8 else 6) 6 p).2.1)).2.1 ∧ okR g107 gs A (u + (smP B n (if lm = 5 then 8 else 6) 6 p).2.2.length) (smP B n (if lm = 5 then 8 else 6) 6 (nxP B n (smP B n (if lm = 5 then 8 else 6) 6 p).2.1)).2.2 := as
        have bs2 : (smP B n (if lm = 5 then 8 else 6) 6 (nxP B n (smP B n (if lm = 5 then 8 else 6) 6 p).2.1)).1 ≠ 0 → rs.toInt = 0 ∧ flR gs A (smP B n (if lm = 5 then 8 else 6) 6 (nxP B n (smP B n (if lm = 5 then 8 else 6) 6 p).2.1)).1 (smP B n (if lm = 5 then 8 else 6) 6 (nxP B n (smP B n (if lm = 5 then 8 else 6) 6 p).2.1)).2.1 := bs
        have ofs : frM A [8] [2, 3, 4, 5, 9, 11, 12] f gs := frM_tr o83 (frM_tr (frM_su o107 (by decide) (by decide)) os)
        obtain ⟨cs, ts, ks⟩ := as2 hq2
        refine t_ifne (t := 120) dX5_readUnit_115 (by decide) (fun h115 => ?_) (fun h115 => False.elim (by omega))
        refine r_aloadR0 dX5_readUnit_120 ?_
        refine r_iload2 dX5_readUnit_121 ?_
        refine q_callV1 zm_RX5_173 dX5_readUnit_122 hr.1 (by decide) rfl (Nat.le_of_ble_eq_true rfl) (Nat.le_of_ble_eq_true rfl) (Nat.le_of_ble_eq_true rfl) (Nat.le_of_ble_eq_true rfl) (Nat.le_of_ble_eq_true rfl) (s_X5_emit (u := u + (smP B n (if lm = 5 then 8 else 6) 6 p).2.2.length + (smP B n (if lm = 5 then 8 else 6) 6 (nxP B n (smP B n (if lm = 5 then 8 else 6) 6 p).2.1)).2.2.length) G hr ks.1 (by omega) (fun g122 o122 a122 b122 c122 => ?_))
        refine n_iconst dX5_readUnit_125 (by decide) (fun r125 e125_z => ?_)
        refine m_zret dX5_readUnit_126 rfl (by omega) (Nat.le_of_ble_eq_true rfl) (Nat.le_of_ble_eq_true rfl) ?_
        refine hQ _ _ g122 (frM_tr ofs (frM_su o122 (by decide) (by decide))) (fun _ => ⟨e125_z, tkR_of ts o122 (by decide) (by decide) (by decide) (by decide), okR_ap (okR_ap k83 (okR_cg ks wn rfl rfl)) ?_⟩) (fun h_z => absurd rfl h_z)
        rw [List.length_append, ← Nat.add_assoc]
        exact okR_one a122 b122 c122 e92_z
      · have hv : cmP B n (smP B n (if lm = 5 then 8 else 6) 6) p = (smP B n (if lm = 5 then 8 else 6) 6 (nxP B n (smP B n (if lm = 5 then 8 else 6) 6 p).2.1)) := (if_neg (not_not_intro hq)).trans ((if_neg hop).trans (if_pos hq2))
        rw [hv] at hQ
        refine r_aloadR0 dX5_readUnit_0 ?_
        refine k_gets (ko.2.1 ("NOT", 8) (List.mem_of_getElem? (i := 4) rfl)) zg_RX5_182 dX5_readUnit_1 ?_
        refine q_callV1 zm_RX5_170 dX5_readUnit_4 hr.1 (by decide) rfl (Nat.le_of_ble_eq_true rfl) (Nat.le_of_ble_eq_true rfl) (Nat.le_of_ble_eq_true rfl) (Nat.le_of_ble_eq_true rfl) (Nat.le_of_ble_eq_true rfl) (s_X5_isWord (i := 8) G hr kw ko (by decide) htk (fun r4 e4_z => ?_))
        have e4b : r4.toInt = 0 := e4_z.elim (fun h_z => absurd h_z.2 hw) (fun h_z => h_z.1)
        refine t_ifeq (t := 39) dX5_readUnit_7 (by decide) (fun h7 => ?_) (fun h7 => False.elim (by omega))
        refine r_aloadR0 dX5_readUnit_39 ?_
        refine m_getV (x := (f A 4)) zf_RX5_25 rfl dX5_readUnit_40 hr.1 (rfl) ?_
        refine n_bipush dX5_readUnit_43 (by decide) (fun r43 e43 => ?_)
        refine t_icne (t := 81) dX5_readUnit_45 (by decide) (fun h45 => ?_) (fun h45 => False.elim (by omega))
        refine r_aloadR0 dX5_readUnit_81 ?_
        refine r_iload1 dX5_readUnit_82 ?_
        refine q_callV1 zm_RX5_146 dX5_readUnit_83 hr.1 (by decide) rfl (Nat.le_of_ble_eq_true rfl) (Nat.le_of_ble_eq_true rfl) (Nat.le_of_ble_eq_true rfl) (Nat.le_of_ble_eq_true rfl) (Nat.le_of_ble_eq_true rfl) (s_X5_readSum_6 (lm := lm) (u := u) G hr kw ko htp htk hx hol hu hup (fun r83 v83 g83 o83 a83 b83 => ?_))
        have a83b : (smP B n (if lm = 5 then 8 else 6) 6 p).1 = 0 → r83.toInt = 1 ∧ tkR ca B n g83 v83 A (smP B n (if lm = 5 then 8 else 6) 6 p).2.1 ∧ okR f g83 A u (smP B n (if lm = 5 then 8 else 6) 6 p).2.2 := a83
        have b83b : (smP B n (if lm = 5 then 8 else 6) 6 p).1 ≠ 0 → r83.toInt = 0 ∧ flR g83 A (smP B n (if lm = 5 then 8 else 6) 6 p).1 (smP B n (if lm = 5 then 8 else 6) 6 p).2.1 := b83
        obtain ⟨c83, t83, k83⟩ := a83b hq
        have htp83 := tpR_of htp ht o83 (by decide)
        refine t_ifne (t := 91) dX5_readUnit_86 (by decide) (fun h86 => ?_) (fun h86 => False.elim (by omega))
        refine r_aloadR0 dX5_readUnit_91 ?_
        refine q_callV0 zm_RX5_188 dX5_readUnit_92 hr.1 (by decide) rfl (Nat.le_of_ble_eq_true rfl) (Nat.le_of_ble_eq_true rfl) (Nat.le_of_ble_eq_true rfl) (Nat.le_of_ble_eq_true rfl) (Nat.le_of_ble_eq_true rfl) (s_X5_comparing (n := n) (B := B) (s := (smP B n (if lm = 5 then 8 else 6) 6 p).2.1) G hr t83 (fun r92 a92 b92 => ?_))
        have e92_z := b92 hop
        refine r_istore2 dX5_readUnit_95 rfl ?_
        refine r_iload2 dX5_readUnit_96 ?_
        refine n_iconst dX5_readUnit_97 (by decide) (fun r97 e97_z => ?_)
        refine t_icne (t := 106) dX5_readUnit_98 (by decide) (fun h98 => ?_) (fun h98 => False.elim (by omega))
        refine r_aloadR0 dX5_readUnit_106 ?_
        refine q_callV0 zm_RX5_73 dX5_readUnit_107 hr.1 (by decide) rfl (Nat.le_of_ble_eq_true rfl) (Nat.le_of_ble_eq_true rfl) (Nat.le_of_ble_eq_true rfl) (Nat.le_of_ble_eq_true rfl) (Nat.le_of_ble_eq_true rfl) (s_X5_next (p := teP B n (smP B n (if lm = 5 then 8 else 6) 6 p).2.1) G hr kw ko htp83 t83.2.1 (teP_le t83.1) t83.2.2.2.2.2.2 (fun v107 g107 o107 t107 => ?_))
        have t107 : tkR ca B n g107 v107 A (nxP B n (smP B n (if lm = 5 then 8 else 6) 6 p).2.1) := t107
        have htpn := tpR_of htp83 ht o107 (by decide)
        have wn : g107 (A + 8) = g83 (A + 8) := o107.2.1 8 (by decide) (by decide) (by decide)
        refine r_aloadR0 dX5_readUnit_110 ?_
        refine r_iload1 dX5_readUnit_111 ?_
        refine q_callV1 zm_RX5_146 dX5_readUnit_112 hr.1 (by decide) rfl (Nat.le_of_ble_eq_true rfl) (Nat.le_of_ble_eq_true rfl) (Nat.le_of_ble_eq_true rfl) (Nat.le_of_ble_eq_true rfl) (Nat.le_of_ble_eq_true rfl) (s_X5_readSum_6 (lm := lm) (u := u + (smP B n (if lm = 5 then 8 else 6) 6 p).2.2.length) G hr kw ko htpn t107 hx (by rw [o107.2.2 10 (by decide), o83.2.2 10 (by decide)]; exact hol) (by rw [o107.2.2 9 (by decide)]; exact k83.1) (by omega) (fun rs vs gs os as bs => ?_))
        have as2 : (smP B n (if lm = 5 then 8 else 6) 6 (nxP B n (smP B n (if lm = 5 then 8 else 6) 6 p).2.1)).1 = 0 → rs.toInt = 1 ∧ tkR ca B n gs vs A (smP B n (if lm = 5 then 8 else 6) 6 (nxP B n (smP B n (if lm = 5 then 8 else 6) 6 p).2.1)).2.1 ∧ okR g107 gs A (u + (smP B n (if lm = 5 then 8 else 6) 6 p).2.2.length) (smP B n (if lm = 5 then 8 else 6) 6 (nxP B n (smP B n (if lm = 5 then 8 else 6) 6 p).2.1)).2.2 := as
        have bs2 : (smP B n (if lm = 5 then 8 else 6) 6 (nxP B n (smP B n (if lm = 5 then 8 else 6) 6 p).2.1)).1 ≠ 0 → rs.toInt = 0 ∧ flR gs A (smP B n (if lm = 5 then 8 else 6) 6 (nxP B n (smP B n (if lm = 5 then 8 else 6) 6 p).2.1)).1 (smP B n (if lm = 5 then 8 else 6) 6 (nxP B n (smP B n (if lm = 5 then 8 else 6) 6 p).2.1)).2.1 := bs
        have ofs : frM A [8] [2, 3, 4, 5, 9, 11, 12] f gs := frM_tr o83 (frM_tr (frM_su o107 (by decide) (by decide)) os)
        obtain ⟨cs, ls⟩ := bs2 hq2
        refine t_ifne (t := 120) dX5_readUnit_115 (by decide) (fun h115 => False.elim (by omega)) (fun h115 => ?_)
        refine n_iconst dX5_readUnit_118 (by decide) (fun r118 e118_z => ?_)
        refine m_zret dX5_readUnit_119 rfl (by omega) (Nat.le_of_ble_eq_true rfl) (Nat.le_of_ble_eq_true rfl) ?_
        exact hQ _ _ gs ofs (fun h_z => absurd h_z hq2) (fun _ => ⟨e118_z, ls⟩)
  · have hv : cmP B n (smP B n (if lm = 5 then 8 else 6) 6) p = (smP B n (if lm = 5 then 8 else 6) 6 p) := if_pos hq
    rw [hv] at hQ
    refine r_aloadR0 dX5_readUnit_0 ?_
    refine k_gets (ko.2.1 ("NOT", 8) (List.mem_of_getElem? (i := 4) rfl)) zg_RX5_182 dX5_readUnit_1 ?_
    refine q_callV1 zm_RX5_170 dX5_readUnit_4 hr.1 (by decide) rfl (Nat.le_of_ble_eq_true rfl) (Nat.le_of_ble_eq_true rfl) (Nat.le_of_ble_eq_true rfl) (Nat.le_of_ble_eq_true rfl) (Nat.le_of_ble_eq_true rfl) (s_X5_isWord (i := 8) G hr kw ko (by decide) htk (fun r4 e4_z => ?_))
    have e4b : r4.toInt = 0 := e4_z.elim (fun h_z => absurd h_z.2 hw) (fun h_z => h_z.1)
    refine t_ifeq (t := 39) dX5_readUnit_7 (by decide) (fun h7 => ?_) (fun h7 => False.elim (by omega))
    refine r_aloadR0 dX5_readUnit_39 ?_
    refine m_getV (x := (f A 4)) zf_RX5_25 rfl dX5_readUnit_40 hr.1 (rfl) ?_
    refine n_bipush dX5_readUnit_43 (by decide) (fun r43 e43 => ?_)
    refine t_icne (t := 81) dX5_readUnit_45 (by decide) (fun h45 => ?_) (fun h45 => False.elim (by omega))
    refine r_aloadR0 dX5_readUnit_81 ?_
    refine r_iload1 dX5_readUnit_82 ?_
    refine q_callV1 zm_RX5_146 dX5_readUnit_83 hr.1 (by decide) rfl (Nat.le_of_ble_eq_true rfl) (Nat.le_of_ble_eq_true rfl) (Nat.le_of_ble_eq_true rfl) (Nat.le_of_ble_eq_true rfl) (Nat.le_of_ble_eq_true rfl) (s_X5_readSum_6 (lm := lm) (u := u) G hr kw ko htp htk hx hol hu hup (fun r83 v83 g83 o83 a83 b83 => ?_))
    have a83b : (smP B n (if lm = 5 then 8 else 6) 6 p).1 = 0 → r83.toInt = 1 ∧ tkR ca B n g83 v83 A (smP B n (if lm = 5 then 8 else 6) 6 p).2.1 ∧ okR f g83 A u (smP B n (if lm = 5 then 8 else 6) 6 p).2.2 := a83
    have b83b : (smP B n (if lm = 5 then 8 else 6) 6 p).1 ≠ 0 → r83.toInt = 0 ∧ flR g83 A (smP B n (if lm = 5 then 8 else 6) 6 p).1 (smP B n (if lm = 5 then 8 else 6) 6 p).2.1 := b83
    obtain ⟨c83, l83⟩ := b83b hq
    refine t_ifne (t := 91) dX5_readUnit_86 (by decide) (fun h86 => False.elim (by omega)) (fun h86 => ?_)
    refine n_iconst dX5_readUnit_89 (by decide) (fun r89 e89 => ?_)
    refine m_zret dX5_readUnit_90 rfl (by omega) (Nat.le_of_ble_eq_true rfl) (Nat.le_of_ble_eq_true rfl) ?_
    exact hQ _ _ g83 o83 (fun h_z => absurd h_z hq) (fun _ => ⟨e89, l83⟩)
set_option maxHeartbeats 4000000 in
set_option maxRecDepth 100000 in
theorem s_X5_readBoth_6 {g : zGT} {w : zW} {f : Nat → Nat → Int32} {j : Nat → Nat → Int64} {A tq nq : Nat} {v : Option Nat} {B : Nat → Nat} {n : Nat} {ca wa wv : Nat → Nat} {kq ta sm gq gv : Nat} {p lm u : Nat} {x : Int32} {Q : Option Value → zW → Prop} {QX : String → zW → Prop} (G : zGok g) (hr : shRd w A tq nq) (kw : kWd g wa wv kq) (ko : kWo g ca wa wv ta sm gq gv) (htp : tpR B n f A tq) (htk : tkR ca B n f v A p) (hx : x.toInt = 0) (hol : (f A 10).toInt = if lm = 5 then 1 else 0) (hu : (f A 9).toInt = (u : Nat)) (hup : u ≤ p) (hQ : ∀ (b : Int32) v2 f2_z, frM A [8] [2, 3, 4, 5, 9, 11, 12] f f2_z → ((chP B n (unP B n (if lm = 5 then 8 else 6) 6) (opA B n) p).1 = 0 → b.toInt = 1 ∧ tkR ca B n f2_z v2 A (chP B n (unP B n (if lm = 5 then 8 else 6) 6) (opA B n) p).2.1 ∧ okR f f2_z A u (chP B n (unP B n (if lm = 5 then 8 else 6) 6) (opA B n) p).2.2) → ((chP B n (unP B n (if lm = 5 then 8 else 6) 6) (opA B n) p).1 ≠ 0 → b.toInt = 0 ∧ flR f2_z A (chP B n (unP B n (if lm = 5 then 8 else 6) 6) (opA B n) p).1 (chP B n (unP B n (if lm = 5 then 8 else 6) 6) (opA B n) p).2.1) → Q (some (.int b)) (zM (wW w A v2) f2_z j)) : zC g 65 yX5_readBoth cX5_readBoth 3 (some .boolean) [.ref A, .int x] (zM (wW w A v) f j) (0, 0) Q QX := by
  refine zC_of G (by decide +kernel) (Nat.le_of_ble_eq_true rfl) ?_
  have ht := hr.2.2.2.2.2.2
  have h4 := htk.2.2.2.1
  have hpn := htk.1
  have h900 := htp.2.1
  have hgd : ∀ s, s ≤ n → gdP n true (if lm = 5 then 8 else 6) (4 + 2 * 6) s ((unP B n (if lm = 5 then 8 else 6) 6) s) := gd_un (by split <;> decide) 6
  have lp : ∀ (mz : Nat) (uu : Int32) (i : Nat) (k : Nat) (ps : Nat) (c : List Nat) (f2_z : Nat → Nat → Int32) (vv : Option Nat), uu.toInt = (i : Nat) → frM A [8] [2, 3, 4, 5, 9, 11, 12] f f2_z → tkR ca B n f2_z vv A ps → okR f f2_z A u c → p + i < ps → ps ≤ n → c.length + p ≤ ps → n ≤ k + ps → lpP B n (unP B n (if lm = 5 then 8 else 6) 6) (opA B n) k (0, ps, c) = chP B n (unP B n (if lm = 5 then 8 else 6) 6) (opA B n) p → k < mz → zR (zV g 65 yX5_readBoth 3 (some .boolean) (0, 0) Q QX) cX5_readBoth yX5_readBoth.cls 12 [some (.ref A), some (.int x), some (.int uu)] [] (zM (wW w A vv) f2_z j) (0, 0) := by
    intro mz
    induction mz with
    | zero =>
      intro uu i k ps c f2_z vv hui ofr htk2 hok hpi hps hcl hnk hR hmz
      exact absurd hmz (Nat.not_lt_zero _)
    | succ mz ih =>
      intro uu i k ps c f2_z vv hui ofr htk2 hok hpi hps hcl hnk hR hmz
      have htp2 := tpR_of htp ht ofr (by decide)
      have h1 := htp2.1
      have htk4 := htk2.2.2.2.1
      have hi9 : i < n := by omega
      by_cases hc_z : isWd B n ps 7 = true
      · have hop : (opA B n) ps = 2001 := if_pos hc_z
        have hop0 : (opA B n) ps ≠ 0 := by rw [hop]; decide
        have hln := tk_lt (B := B) (n := n) (s := ps) (by rw [(isWd_tk hc_z).1]; decide)
        obtain ⟨k2_z, rfl⟩ : ∃ k2_z, k = k2_z + 1 := ⟨k - 1, by omega⟩
        have hnx := nxP_gt (B := B) hln
        have gq := hgd _ hnx.2
        by_cases hq : ((unP B n (if lm = 5 then 8 else 6) 6) (nxP B n ps)).1 = 0
        · obtain ⟨y1, y2, y3, y4⟩ := gq.1 hq
          refine r_iload2 dX5_readBoth_12 ?_
          refine r_aloadR0 dX5_readBoth_13 ?_
          refine m_getV (x := (f2_z A 1)) zf_RX5_15 rfl dX5_readBoth_14 hr.1 (rfl) ?_
          refine t_icge (t := 57) dX5_readBoth_17 (by decide) (fun h17 => False.elim (by omega)) (fun h17 => ?_)
          refine r_aloadR0 dX5_readBoth_20 ?_
          refine k_gets (ko.2.1 ("AND", 7) (List.mem_of_getElem? (i := 7) rfl)) zg_RX5_179 dX5_readBoth_21 ?_
          refine q_callV1 zm_RX5_170 dX5_readBoth_24 hr.1 (by decide) rfl (Nat.le_of_ble_eq_true rfl) (Nat.le_of_ble_eq_true rfl) (Nat.le_of_ble_eq_true rfl) (Nat.le_of_ble_eq_true rfl) (Nat.le_of_ble_eq_true rfl) (s_X5_isWord (i := 7) G hr kw ko (by decide) htk2 (fun r24 e24_z => ?_))
          have e24b : r24.toInt = 1 := e24_z.elim (fun h_z => h_z.1) (fun h_z => absurd hc_z h_z.2)
          refine t_ifeq (t := 57) dX5_readBoth_27 (by decide) (fun h27 => False.elim (by omega)) (fun h27 => ?_)
          refine r_aloadR0 dX5_readBoth_30 ?_
          refine q_callV0 zm_RX5_73 dX5_readBoth_31 hr.1 (by decide) rfl (Nat.le_of_ble_eq_true rfl) (Nat.le_of_ble_eq_true rfl) (Nat.le_of_ble_eq_true rfl) (Nat.le_of_ble_eq_true rfl) (Nat.le_of_ble_eq_true rfl) (s_X5_next (p := teP B n ps) G hr kw ko htp2 htk2.2.1 (teP_le htk2.1) htk2.2.2.2.2.2.2 (fun v31 g31 o31 t31 => ?_))
          have t31 : tkR ca B n g31 v31 A (nxP B n ps) := t31
          have htpn := tpR_of htp2 ht o31 (by decide)
          have wn : g31 (A + 8) = f2_z (A + 8) := o31.2.1 8 (by decide) (by decide) (by decide)
          refine r_aloadR0 dX5_readBoth_34 ?_
          refine r_iload1 dX5_readBoth_35 ?_
          refine q_callV1 zm_RX5_176 dX5_readBoth_36 hr.1 (by decide) rfl (Nat.le_of_ble_eq_true rfl) (Nat.le_of_ble_eq_true rfl) (Nat.le_of_ble_eq_true rfl) (Nat.le_of_ble_eq_true rfl) (Nat.le_of_ble_eq_true rfl) (s_X5_readUnit_6 (lm := lm) (u := u + c.length) G hr kw ko htpn t31 hx (by rw [o31.2.2 10 (by decide), ofr.2.2 10 (by decide)]; exact hol) (by rw [o31.2.2 9 (by decide)]; exact hok.1) (by omega) (fun rs vs gs os as bs => ?_))
          have as2 : ((unP B n (if lm = 5 then 8 else 6) 6) (nxP B n ps)).1 = 0 → rs.toInt = 1 ∧ tkR ca B n gs vs A ((unP B n (if lm = 5 then 8 else 6) 6) (nxP B n ps)).2.1 ∧ okR g31 gs A (u + c.length) ((unP B n (if lm = 5 then 8 else 6) 6) (nxP B n ps)).2.2 := as
          have bs2 : ((unP B n (if lm = 5 then 8 else 6) 6) (nxP B n ps)).1 ≠ 0 → rs.toInt = 0 ∧ flR gs A ((unP B n (if lm = 5 then 8 else 6) 6) (nxP B n ps)).1 ((unP B n (if lm = 5 then 8 else 6) 6) (nxP B n ps)).2.1 := bs
          have ofs : frM A [8] [2, 3, 4, 5, 9, 11, 12] f gs := frM_tr ofr (frM_tr (frM_su o31 (by decide) (by decide)) os)
          obtain ⟨cs, ts, ks⟩ := as2 hq
          refine t_ifne (t := 44) dX5_readBoth_39 (by decide) (fun h39 => ?_) (fun h39 => False.elim (by omega))
          refine r_aloadR0 dX5_readBoth_44 ?_
          refine n_sipush dX5_readBoth_45 (by decide) (fun r45 e45 => ?_)
          refine q_callV1 zm_RX5_173 dX5_readBoth_48 hr.1 (by decide) rfl (Nat.le_of_ble_eq_true rfl) (Nat.le_of_ble_eq_true rfl) (Nat.le_of_ble_eq_true rfl) (Nat.le_of_ble_eq_true rfl) (Nat.le_of_ble_eq_true rfl) (s_X5_emit (u := u + c.length + ((unP B n (if lm = 5 then 8 else 6) 6) (nxP B n ps)).2.2.length) G hr ks.1 (by omega) (fun g48 o48 a48 b48 c48 => ?_))
          refine n_iinc2 dX5_readBoth_51 (by decide) rfl (by omega) (fun r51 e51 => ?_)
          refine r_goto (t := 12) dX5_readBoth_54 (by decide) ?_
          refine ih _ (i + 1) k2_z ((unP B n (if lm = 5 then 8 else 6) 6) (nxP B n ps)).2.1 (c ++ ((unP B n (if lm = 5 then 8 else 6) 6) (nxP B n ps)).2.2 ++ [(opA B n) ps]) g48 _ (by omega) (frM_tr ofs (frM_su o48 (by decide) (by decide))) (tkR_of ts o48 (by decide) (by decide) (by decide) (by decide)) (okR_ap (okR_ap hok (okR_cg ks wn rfl rfl)) ?_) (by omega) y2 ?_ (by omega) ?_ (by omega)
          · rw [List.length_append, ← Nat.add_assoc, hop]
            exact okR_one a48 b48 c48 (by omega)
          · rw [List.length_append, List.length_append, List.length_singleton]
            omega
          · exact (lpP_on (r := (0, ps, c)) rfl hop0 hq).symm.trans hR
        · have hv : ((unP B n (if lm = 5 then 8 else 6) 6) (nxP B n ps)) = chP B n (unP B n (if lm = 5 then 8 else 6) 6) (opA B n) p := (lpP_sub (k := k2_z) (r := (0, ps, c)) rfl hop0 hq).symm.trans hR
          refine r_iload2 dX5_readBoth_12 ?_
          refine r_aloadR0 dX5_readBoth_13 ?_
          refine m_getV (x := (f2_z A 1)) zf_RX5_15 rfl dX5_readBoth_14 hr.1 (rfl) ?_
          refine t_icge (t := 57) dX5_readBoth_17 (by decide) (fun h17 => False.elim (by omega)) (fun h17 => ?_)
          refine r_aloadR0 dX5_readBoth_20 ?_
          refine k_gets (ko.2.1 ("AND", 7) (List.mem_of_getElem? (i := 7) rfl)) zg_RX5_179 dX5_readBoth_21 ?_
          refine q_callV1 zm_RX5_170 dX5_readBoth_24 hr.1 (by decide) rfl (Nat.le_of_ble_eq_true rfl) (Nat.le_of_ble_eq_true rfl) (Nat.le_of_ble_eq_true rfl) (Nat.le_of_ble_eq_true rfl) (Nat.le_of_ble_eq_true rfl) (s_X5_isWord (i := 7) G hr kw ko (by decide) htk2 (fun r24 e24_z => ?_))
          have e24b : r24.toInt = 1 := e24_z.elim (fun h_z => h_z.1) (fun h_z => absurd hc_z h_z.2)
          refine t_ifeq (t := 57) dX5_readBoth_27 (by decide) (fun h27 => False.elim (by omega)) (fun h27 => ?_)
          refine r_aloadR0 dX5_readBoth_30 ?_
          refine q_callV0 zm_RX5_73 dX5_readBoth_31 hr.1 (by decide) rfl (Nat.le_of_ble_eq_true rfl) (Nat.le_of_ble_eq_true rfl) (Nat.le_of_ble_eq_true rfl) (Nat.le_of_ble_eq_true rfl) (Nat.le_of_ble_eq_true rfl) (s_X5_next (p := teP B n ps) G hr kw ko htp2 htk2.2.1 (teP_le htk2.1) htk2.2.2.2.2.2.2 (fun v31 g31 o31 t31 => ?_))
          have t31 : tkR ca B n g31 v31 A (nxP B n ps) := t31
          have htpn := tpR_of htp2 ht o31 (by decide)
          have wn : g31 (A + 8) = f2_z (A + 8) := o31.2.1 8 (by decide) (by decide) (by decide)
          refine r_aloadR0 dX5_readBoth_34 ?_
          refine r_iload1 dX5_readBoth_35 ?_
          refine q_callV1 zm_RX5_176 dX5_readBoth_36 hr.1 (by decide) rfl (Nat.le_of_ble_eq_true rfl) (Nat.le_of_ble_eq_true rfl) (Nat.le_of_ble_eq_true rfl) (Nat.le_of_ble_eq_true rfl) (Nat.le_of_ble_eq_true rfl) (s_X5_readUnit_6 (lm := lm) (u := u + c.length) G hr kw ko htpn t31 hx (by rw [o31.2.2 10 (by decide), ofr.2.2 10 (by decide)]; exact hol) (by rw [o31.2.2 9 (by decide)]; exact hok.1) (by omega) (fun rs vs gs os as bs => ?_))
          have as2 : ((unP B n (if lm = 5 then 8 else 6) 6) (nxP B n ps)).1 = 0 → rs.toInt = 1 ∧ tkR ca B n gs vs A ((unP B n (if lm = 5 then 8 else 6) 6) (nxP B n ps)).2.1 ∧ okR g31 gs A (u + c.length) ((unP B n (if lm = 5 then 8 else 6) 6) (nxP B n ps)).2.2 := as
          have bs2 : ((unP B n (if lm = 5 then 8 else 6) 6) (nxP B n ps)).1 ≠ 0 → rs.toInt = 0 ∧ flR gs A ((unP B n (if lm = 5 then 8 else 6) 6) (nxP B n ps)).1 ((unP B n (if lm = 5 then 8 else 6) 6) (nxP B n ps)).2.1 := bs
          have ofs : frM A [8] [2, 3, 4, 5, 9, 11, 12] f gs := frM_tr ofr (frM_tr (frM_su o31 (by decide) (by decide)) os)
          obtain ⟨cs, ls⟩ := bs2 hq
          refine t_ifne (t := 44) dX5_readBoth_39 (by decide) (fun h39 => False.elim (by omega)) (fun h39 => ?_)
          refine n_iconst dX5_readBoth_42 (by decide) (fun r42 e42_z => ?_)
          refine m_zret dX5_readBoth_43 rfl (by omega) (Nat.le_of_ble_eq_true rfl) (Nat.le_of_ble_eq_true rfl) ?_
          rw [← hv] at hQ
          exact hQ _ _ gs ofs (fun h_z => absurd h_z hq) (fun _ => ⟨e42_z, ls⟩)
      have hop : (opA B n) ps = 0 := if_neg hc_z
      have hv := (lpP_end (B := B) (n := n) (k := k) (sub := (unP B n (if lm = 5 then 8 else 6) 6)) (r := (0, ps, c)) hop).symm.trans hR
      refine r_iload2 dX5_readBoth_12 ?_
      refine r_aloadR0 dX5_readBoth_13 ?_
      refine m_getV (x := (f2_z A 1)) zf_RX5_15 rfl dX5_readBoth_14 hr.1 (rfl) ?_
      refine t_icge (t := 57) dX5_readBoth_17 (by decide) (fun h17 => False.elim (by omega)) (fun h17 => ?_)
      refine r_aloadR0 dX5_readBoth_20 ?_
      refine k_gets (ko.2.1 ("AND", 7) (List.mem_of_getElem? (i := 7) rfl)) zg_RX5_179 dX5_readBoth_21 ?_
      refine q_callV1 zm_RX5_170 dX5_readBoth_24 hr.1 (by decide) rfl (Nat.le_of_ble_eq_true rfl) (Nat.le_of_ble_eq_true rfl) (Nat.le_of_ble_eq_true rfl) (Nat.le_of_ble_eq_true rfl) (Nat.le_of_ble_eq_true rfl) (s_X5_isWord (i := 7) G hr kw ko (by decide) htk2 (fun r24 e24_z => ?_))
      have e24b : r24.toInt = 0 := e24_z.elim (fun h_z => absurd h_z.2 hc_z) (fun h_z => h_z.1)
      refine t_ifeq (t := 57) dX5_readBoth_27 (by decide) (fun h27 => ?_) (fun h27 => False.elim (by omega))
      refine n_iconst dX5_readBoth_57 (by decide) (fun r57 e57 => ?_)
      refine m_zret dX5_readBoth_58 rfl (by omega) (Nat.le_of_ble_eq_true rfl) (Nat.le_of_ble_eq_true rfl) ?_
      rw [← hv] at hQ
      exact hQ _ _ f2_z ofr (fun _ => ⟨e57, htk2, hok⟩) (fun h_z => absurd rfl h_z)
  have gp := hgd p hpn
  by_cases hq : ((unP B n (if lm = 5 then 8 else 6) 6) p).1 = 0
  · obtain ⟨y1, y2, y3, y4⟩ := gp.1 hq
    have hz : ((unP B n (if lm = 5 then 8 else 6) 6) p) = (0, ((unP B n (if lm = 5 then 8 else 6) 6) p).2.1, ((unP B n (if lm = 5 then 8 else 6) 6) p).2.2) := Prod.ext hq rfl
    refine r_aloadR0 dX5_readBoth_0 ?_
    refine r_iload1 dX5_readBoth_1 ?_
    refine q_callV1 zm_RX5_176 dX5_readBoth_2 hr.1 (by decide) rfl (Nat.le_of_ble_eq_true rfl) (Nat.le_of_ble_eq_true rfl) (Nat.le_of_ble_eq_true rfl) (Nat.le_of_ble_eq_true rfl) (Nat.le_of_ble_eq_true rfl) (s_X5_readUnit_6 G hr kw ko htp htk hx hol hu hup (fun r2 v2 g2 o2 a2 b2 => ?_))
    have a2b : ((unP B n (if lm = 5 then 8 else 6) 6) p).1 = 0 → r2.toInt = 1 ∧ tkR ca B n g2 v2 A ((unP B n (if lm = 5 then 8 else 6) 6) p).2.1 ∧ okR f g2 A u ((unP B n (if lm = 5 then 8 else 6) 6) p).2.2 := a2
    have b2b : ((unP B n (if lm = 5 then 8 else 6) 6) p).1 ≠ 0 → r2.toInt = 0 ∧ flR g2 A ((unP B n (if lm = 5 then 8 else 6) 6) p).1 ((unP B n (if lm = 5 then 8 else 6) 6) p).2.1 := b2
    obtain ⟨c2_z, t2, k2_z⟩ := a2b hq
    refine t_ifne (t := 10) dX5_readBoth_5 (by decide) (fun h5 => ?_) (fun h5 => False.elim (by omega))
    refine n_iconst dX5_readBoth_10 (by decide) (fun r10 e10_z => ?_)
    refine r_istore2 dX5_readBoth_11 rfl ?_
    exact lp (n + 1) _ 0 n ((unP B n (if lm = 5 then 8 else 6) 6) p).2.1 ((unP B n (if lm = 5 then 8 else 6) 6) p).2.2 g2 _ (by omega) o2 t2 k2_z (by omega) y2 y3 (by omega) (by rw [← hz]; rfl) (Nat.lt_succ_self n)
  · have hv : chP B n (unP B n (if lm = 5 then 8 else 6) 6) (opA B n) p = ((unP B n (if lm = 5 then 8 else 6) 6) p) := lpP_bad hq
    rw [hv] at hQ
    refine r_aloadR0 dX5_readBoth_0 ?_
    refine r_iload1 dX5_readBoth_1 ?_
    refine q_callV1 zm_RX5_176 dX5_readBoth_2 hr.1 (by decide) rfl (Nat.le_of_ble_eq_true rfl) (Nat.le_of_ble_eq_true rfl) (Nat.le_of_ble_eq_true rfl) (Nat.le_of_ble_eq_true rfl) (Nat.le_of_ble_eq_true rfl) (s_X5_readUnit_6 G hr kw ko htp htk hx hol hu hup (fun r2 v2 g2 o2 a2 b2 => ?_))
    have a2b : ((unP B n (if lm = 5 then 8 else 6) 6) p).1 = 0 → r2.toInt = 1 ∧ tkR ca B n g2 v2 A ((unP B n (if lm = 5 then 8 else 6) 6) p).2.1 ∧ okR f g2 A u ((unP B n (if lm = 5 then 8 else 6) 6) p).2.2 := a2
    have b2b : ((unP B n (if lm = 5 then 8 else 6) 6) p).1 ≠ 0 → r2.toInt = 0 ∧ flR g2 A ((unP B n (if lm = 5 then 8 else 6) 6) p).1 ((unP B n (if lm = 5 then 8 else 6) 6) p).2.1 := b2
    obtain ⟨c2_z, l2⟩ := b2b hq
    refine t_ifne (t := 10) dX5_readBoth_5 (by decide) (fun h5 => False.elim (by omega)) (fun h5 => ?_)
    refine n_iconst dX5_readBoth_8 (by decide) (fun r8 e8 => ?_)
    refine m_zret dX5_readBoth_9 rfl (by omega) (Nat.le_of_ble_eq_true rfl) (Nat.le_of_ble_eq_true rfl) ?_
    exact hQ _ _ g2 o2 (fun h_z => absurd h_z hq) (fun _ => ⟨e8, l2⟩)
set_option maxHeartbeats 4000000 in
set_option maxRecDepth 100000 in
theorem s_X5_readTruth_6 {g : zGT} {w : zW} {f : Nat → Nat → Int32} {j : Nat → Nat → Int64} {A tq nq : Nat} {v : Option Nat} {B : Nat → Nat} {n : Nat} {ca wa wv : Nat → Nat} {kq ta sm gq gv : Nat} {p lm u : Nat} {x : Int32} {Q : Option Value → zW → Prop} {QX : String → zW → Prop} (G : zGok g) (hr : shRd w A tq nq) (kw : kWd g wa wv kq) (ko : kWo g ca wa wv ta sm gq gv) (htp : tpR B n f A tq) (htk : tkR ca B n f v A p) (hx : x.toInt = 0) (hol : (f A 10).toInt = if lm = 5 then 1 else 0) (hu : (f A 9).toInt = (u : Nat)) (hup : u ≤ p) (hQ : ∀ (b : Int32) v2 f2_z, frM A [8] [2, 3, 4, 5, 9, 11, 12] f f2_z → ((chP B n (chP B n (unP B n (if lm = 5 then 8 else 6) 6) (opA B n)) (opO B n) p).1 = 0 → b.toInt = 1 ∧ tkR ca B n f2_z v2 A (chP B n (chP B n (unP B n (if lm = 5 then 8 else 6) 6) (opA B n)) (opO B n) p).2.1 ∧ okR f f2_z A u (chP B n (chP B n (unP B n (if lm = 5 then 8 else 6) 6) (opA B n)) (opO B n) p).2.2) → ((chP B n (chP B n (unP B n (if lm = 5 then 8 else 6) 6) (opA B n)) (opO B n) p).1 ≠ 0 → b.toInt = 0 ∧ flR f2_z A (chP B n (chP B n (unP B n (if lm = 5 then 8 else 6) 6) (opA B n)) (opO B n) p).1 (chP B n (chP B n (unP B n (if lm = 5 then 8 else 6) 6) (opA B n)) (opO B n) p).2.1) → Q (some (.int b)) (zM (wW w A v2) f2_z j)) : zC g 66 yX5_readTruth cX5_readTruth 3 (some .boolean) [.ref A, .int x] (zM (wW w A v) f j) (0, 0) Q QX := by
  refine zC_of G (by decide +kernel) (Nat.le_of_ble_eq_true rfl) ?_
  have ht := hr.2.2.2.2.2.2
  have h4 := htk.2.2.2.1
  have hpn := htk.1
  have h900 := htp.2.1
  have hgd : ∀ s, s ≤ n → gdP n true (if lm = 5 then 8 else 6) (4 + 2 * 6 + 1) s ((chP B n (unP B n (if lm = 5 then 8 else 6) 6) (opA B n)) s) := fun s hs9 => gd_ch (gd_un (by split <;> decide) 6) hop_A hs9
  have lp : ∀ (mz : Nat) (uu : Int32) (i : Nat) (k : Nat) (ps : Nat) (c : List Nat) (f2_z : Nat → Nat → Int32) (vv : Option Nat), uu.toInt = (i : Nat) → frM A [8] [2, 3, 4, 5, 9, 11, 12] f f2_z → tkR ca B n f2_z vv A ps → okR f f2_z A u c → p + i < ps → ps ≤ n → c.length + p ≤ ps → n ≤ k + ps → lpP B n (chP B n (unP B n (if lm = 5 then 8 else 6) 6) (opA B n)) (opO B n) k (0, ps, c) = chP B n (chP B n (unP B n (if lm = 5 then 8 else 6) 6) (opA B n)) (opO B n) p → k < mz → zR (zV g 66 yX5_readTruth 3 (some .boolean) (0, 0) Q QX) cX5_readTruth yX5_readTruth.cls 12 [some (.ref A), some (.int x), some (.int uu)] [] (zM (wW w A vv) f2_z j) (0, 0) := by
    intro mz
    induction mz with
    | zero =>
      intro uu i k ps c f2_z vv hui ofr htk2 hok hpi hps hcl hnk hR hmz
      exact absurd hmz (Nat.not_lt_zero _)
    | succ mz ih =>
      intro uu i k ps c f2_z vv hui ofr htk2 hok hpi hps hcl hnk hR hmz
      have htp2 := tpR_of htp ht ofr (by decide)
      have h1 := htp2.1
      have htk4 := htk2.2.2.2.1
      have hi9 : i < n := by omega
      by_cases hc_z : isWd B n ps 6 = true
      · have hop : (opO B n) ps = 2002 := if_pos hc_z
        have hop0 : (opO B n) ps ≠ 0 := by rw [hop]; decide
        have hln := tk_lt (B := B) (n := n) (s := ps) (by rw [(isWd_tk hc_z).1]; decide)
        obtain ⟨k2_z, rfl⟩ : ∃ k2_z, k = k2_z + 1 := ⟨k - 1, by omega⟩
        have hnx := nxP_gt (B := B) hln
        have gq := hgd _ hnx.2
        by_cases hq : ((chP B n (unP B n (if lm = 5 then 8 else 6) 6) (opA B n)) (nxP B n ps)).1 = 0
        · obtain ⟨y1, y2, y3, y4⟩ := gq.1 hq
          refine r_iload2 dX5_readTruth_12 ?_
          refine r_aloadR0 dX5_readTruth_13 ?_
          refine m_getV (x := (f2_z A 1)) zf_RX5_15 rfl dX5_readTruth_14 hr.1 (rfl) ?_
          refine t_icge (t := 57) dX5_readTruth_17 (by decide) (fun h17 => False.elim (by omega)) (fun h17 => ?_)
          refine r_aloadR0 dX5_readTruth_20 ?_
          refine k_gets (ko.2.1 ("OR", 6) (List.mem_of_getElem? (i := 8) rfl)) zg_RX5_167 dX5_readTruth_21 ?_
          refine q_callV1 zm_RX5_170 dX5_readTruth_24 hr.1 (by decide) rfl (Nat.le_of_ble_eq_true rfl) (Nat.le_of_ble_eq_true rfl) (Nat.le_of_ble_eq_true rfl) (Nat.le_of_ble_eq_true rfl) (Nat.le_of_ble_eq_true rfl) (s_X5_isWord (i := 6) G hr kw ko (by decide) htk2 (fun r24 e24_z => ?_))
          have e24b : r24.toInt = 1 := e24_z.elim (fun h_z => h_z.1) (fun h_z => absurd hc_z h_z.2)
          refine t_ifeq (t := 57) dX5_readTruth_27 (by decide) (fun h27 => False.elim (by omega)) (fun h27 => ?_)
          refine r_aloadR0 dX5_readTruth_30 ?_
          refine q_callV0 zm_RX5_73 dX5_readTruth_31 hr.1 (by decide) rfl (Nat.le_of_ble_eq_true rfl) (Nat.le_of_ble_eq_true rfl) (Nat.le_of_ble_eq_true rfl) (Nat.le_of_ble_eq_true rfl) (Nat.le_of_ble_eq_true rfl) (s_X5_next (p := teP B n ps) G hr kw ko htp2 htk2.2.1 (teP_le htk2.1) htk2.2.2.2.2.2.2 (fun v31 g31 o31 t31 => ?_))
          have t31 : tkR ca B n g31 v31 A (nxP B n ps) := t31
          have htpn := tpR_of htp2 ht o31 (by decide)
          have wn : g31 (A + 8) = f2_z (A + 8) := o31.2.1 8 (by decide) (by decide) (by decide)
          refine r_aloadR0 dX5_readTruth_34 ?_
          refine r_iload1 dX5_readTruth_35 ?_
          refine q_callV1 zm_RX5_164 dX5_readTruth_36 hr.1 (by decide) rfl (Nat.le_of_ble_eq_true rfl) (Nat.le_of_ble_eq_true rfl) (Nat.le_of_ble_eq_true rfl) (Nat.le_of_ble_eq_true rfl) (Nat.le_of_ble_eq_true rfl) (s_X5_readBoth_6 (lm := lm) (u := u + c.length) G hr kw ko htpn t31 hx (by rw [o31.2.2 10 (by decide), ofr.2.2 10 (by decide)]; exact hol) (by rw [o31.2.2 9 (by decide)]; exact hok.1) (by omega) (fun rs vs gs os as bs => ?_))
          have as2 : ((chP B n (unP B n (if lm = 5 then 8 else 6) 6) (opA B n)) (nxP B n ps)).1 = 0 → rs.toInt = 1 ∧ tkR ca B n gs vs A ((chP B n (unP B n (if lm = 5 then 8 else 6) 6) (opA B n)) (nxP B n ps)).2.1 ∧ okR g31 gs A (u + c.length) ((chP B n (unP B n (if lm = 5 then 8 else 6) 6) (opA B n)) (nxP B n ps)).2.2 := as
          have bs2 : ((chP B n (unP B n (if lm = 5 then 8 else 6) 6) (opA B n)) (nxP B n ps)).1 ≠ 0 → rs.toInt = 0 ∧ flR gs A ((chP B n (unP B n (if lm = 5 then 8 else 6) 6) (opA B n)) (nxP B n ps)).1 ((chP B n (unP B n (if lm = 5 then 8 else 6) 6) (opA B n)) (nxP B n ps)).2.1 := bs
          have ofs : frM A [8] [2, 3, 4, 5, 9, 11, 12] f gs := frM_tr ofr (frM_tr (frM_su o31 (by decide) (by decide)) os)
          obtain ⟨cs, ts, ks⟩ := as2 hq
          refine t_ifne (t := 44) dX5_readTruth_39 (by decide) (fun h39 => ?_) (fun h39 => False.elim (by omega))
          refine r_aloadR0 dX5_readTruth_44 ?_
          refine n_sipush dX5_readTruth_45 (by decide) (fun r45 e45 => ?_)
          refine q_callV1 zm_RX5_173 dX5_readTruth_48 hr.1 (by decide) rfl (Nat.le_of_ble_eq_true rfl) (Nat.le_of_ble_eq_true rfl) (Nat.le_of_ble_eq_true rfl) (Nat.le_of_ble_eq_true rfl) (Nat.le_of_ble_eq_true rfl) (s_X5_emit (u := u + c.length + ((chP B n (unP B n (if lm = 5 then 8 else 6) 6) (opA B n)) (nxP B n ps)).2.2.length) G hr ks.1 (by omega) (fun g48 o48 a48 b48 c48 => ?_))
          refine n_iinc2 dX5_readTruth_51 (by decide) rfl (by omega) (fun r51 e51 => ?_)
          refine r_goto (t := 12) dX5_readTruth_54 (by decide) ?_
          refine ih _ (i + 1) k2_z ((chP B n (unP B n (if lm = 5 then 8 else 6) 6) (opA B n)) (nxP B n ps)).2.1 (c ++ ((chP B n (unP B n (if lm = 5 then 8 else 6) 6) (opA B n)) (nxP B n ps)).2.2 ++ [(opO B n) ps]) g48 _ (by omega) (frM_tr ofs (frM_su o48 (by decide) (by decide))) (tkR_of ts o48 (by decide) (by decide) (by decide) (by decide)) (okR_ap (okR_ap hok (okR_cg ks wn rfl rfl)) ?_) (by omega) y2 ?_ (by omega) ?_ (by omega)
          · rw [List.length_append, ← Nat.add_assoc, hop]
            exact okR_one a48 b48 c48 (by omega)
          · rw [List.length_append, List.length_append, List.length_singleton]
            omega
          · exact (lpP_on (r := (0, ps, c)) rfl hop0 hq).symm.trans hR
        · have hv : ((chP B n (unP B n (if lm = 5 then 8 else 6) 6) (opA B n)) (nxP B n ps)) = chP B n (chP B n (unP B n (if lm = 5 then 8 else 6) 6) (opA B n)) (opO B n) p := (lpP_sub (k := k2_z) (r := (0, ps, c)) rfl hop0 hq).symm.trans hR
          refine r_iload2 dX5_readTruth_12 ?_
          refine r_aloadR0 dX5_readTruth_13 ?_
          refine m_getV (x := (f2_z A 1)) zf_RX5_15 rfl dX5_readTruth_14 hr.1 (rfl) ?_
          refine t_icge (t := 57) dX5_readTruth_17 (by decide) (fun h17 => False.elim (by omega)) (fun h17 => ?_)
          refine r_aloadR0 dX5_readTruth_20 ?_
          refine k_gets (ko.2.1 ("OR", 6) (List.mem_of_getElem? (i := 8) rfl)) zg_RX5_167 dX5_readTruth_21 ?_
          refine q_callV1 zm_RX5_170 dX5_readTruth_24 hr.1 (by decide) rfl (Nat.le_of_ble_eq_true rfl) (Nat.le_of_ble_eq_true rfl) (Nat.le_of_ble_eq_true rfl) (Nat.le_of_ble_eq_true rfl) (Nat.le_of_ble_eq_true rfl) (s_X5_isWord (i := 6) G hr kw ko (by decide) htk2 (fun r24 e24_z => ?_))
          have e24b : r24.toInt = 1 := e24_z.elim (fun h_z => h_z.1) (fun h_z => absurd hc_z h_z.2)
          refine t_ifeq (t := 57) dX5_readTruth_27 (by decide) (fun h27 => False.elim (by omega)) (fun h27 => ?_)
          refine r_aloadR0 dX5_readTruth_30 ?_
          refine q_callV0 zm_RX5_73 dX5_readTruth_31 hr.1 (by decide) rfl (Nat.le_of_ble_eq_true rfl) (Nat.le_of_ble_eq_true rfl) (Nat.le_of_ble_eq_true rfl) (Nat.le_of_ble_eq_true rfl) (Nat.le_of_ble_eq_true rfl) (s_X5_next (p := teP B n ps) G hr kw ko htp2 htk2.2.1 (teP_le htk2.1) htk2.2.2.2.2.2.2 (fun v31 g31 o31 t31 => ?_))
          have t31 : tkR ca B n g31 v31 A (nxP B n ps) := t31
          have htpn := tpR_of htp2 ht o31 (by decide)
          have wn : g31 (A + 8) = f2_z (A + 8) := o31.2.1 8 (by decide) (by decide) (by decide)
          refine r_aloadR0 dX5_readTruth_34 ?_
          refine r_iload1 dX5_readTruth_35 ?_
          refine q_callV1 zm_RX5_164 dX5_readTruth_36 hr.1 (by decide) rfl (Nat.le_of_ble_eq_true rfl) (Nat.le_of_ble_eq_true rfl) (Nat.le_of_ble_eq_true rfl) (Nat.le_of_ble_eq_true rfl) (Nat.le_of_ble_eq_true rfl) (s_X5_readBoth_6 (lm := lm) (u := u + c.length) G hr kw ko htpn t31 hx (by rw [o31.2.2 10 (by decide), ofr.2.2 10 (by decide)]; exact hol) (by rw [o31.2.2 9 (by decide)]; exact hok.1) (by omega) (fun rs vs gs os as bs => ?_))
          have as2 : ((chP B n (unP B n (if lm = 5 then 8 else 6) 6) (opA B n)) (nxP B n ps)).1 = 0 → rs.toInt = 1 ∧ tkR ca B n gs vs A ((chP B n (unP B n (if lm = 5 then 8 else 6) 6) (opA B n)) (nxP B n ps)).2.1 ∧ okR g31 gs A (u + c.length) ((chP B n (unP B n (if lm = 5 then 8 else 6) 6) (opA B n)) (nxP B n ps)).2.2 := as
          have bs2 : ((chP B n (unP B n (if lm = 5 then 8 else 6) 6) (opA B n)) (nxP B n ps)).1 ≠ 0 → rs.toInt = 0 ∧ flR gs A ((chP B n (unP B n (if lm = 5 then 8 else 6) 6) (opA B n)) (nxP B n ps)).1 ((chP B n (unP B n (if lm = 5 then 8 else 6) 6) (opA B n)) (nxP B n ps)).2.1 := bs
          have ofs : frM A [8] [2, 3, 4, 5, 9, 11, 12] f gs := frM_tr ofr (frM_tr (frM_su o31 (by decide) (by decide)) os)
          obtain ⟨cs, ls⟩ := bs2 hq
          refine t_ifne (t := 44) dX5_readTruth_39 (by decide) (fun h39 => False.elim (by omega)) (fun h39 => ?_)
          refine n_iconst dX5_readTruth_42 (by decide) (fun r42 e42_z => ?_)
          refine m_zret dX5_readTruth_43 rfl (by omega) (Nat.le_of_ble_eq_true rfl) (Nat.le_of_ble_eq_true rfl) ?_
          rw [← hv] at hQ
          exact hQ _ _ gs ofs (fun h_z => absurd h_z hq) (fun _ => ⟨e42_z, ls⟩)
      have hop : (opO B n) ps = 0 := if_neg hc_z
      have hv := (lpP_end (B := B) (n := n) (k := k) (sub := (chP B n (unP B n (if lm = 5 then 8 else 6) 6) (opA B n))) (r := (0, ps, c)) hop).symm.trans hR
      refine r_iload2 dX5_readTruth_12 ?_
      refine r_aloadR0 dX5_readTruth_13 ?_
      refine m_getV (x := (f2_z A 1)) zf_RX5_15 rfl dX5_readTruth_14 hr.1 (rfl) ?_
      refine t_icge (t := 57) dX5_readTruth_17 (by decide) (fun h17 => False.elim (by omega)) (fun h17 => ?_)
      refine r_aloadR0 dX5_readTruth_20 ?_
      refine k_gets (ko.2.1 ("OR", 6) (List.mem_of_getElem? (i := 8) rfl)) zg_RX5_167 dX5_readTruth_21 ?_
      refine q_callV1 zm_RX5_170 dX5_readTruth_24 hr.1 (by decide) rfl (Nat.le_of_ble_eq_true rfl) (Nat.le_of_ble_eq_true rfl) (Nat.le_of_ble_eq_true rfl) (Nat.le_of_ble_eq_true rfl) (Nat.le_of_ble_eq_true rfl) (s_X5_isWord (i := 6) G hr kw ko (by decide) htk2 (fun r24 e24_z => ?_))
      have e24b : r24.toInt = 0 := e24_z.elim (fun h_z => absurd h_z.2 hc_z) (fun h_z => h_z.1)
      refine t_ifeq (t := 57) dX5_readTruth_27 (by decide) (fun h27 => ?_) (fun h27 => False.elim (by omega))
      refine n_iconst dX5_readTruth_57 (by decide) (fun r57 e57 => ?_)
      refine m_zret dX5_readTruth_58 rfl (by omega) (Nat.le_of_ble_eq_true rfl) (Nat.le_of_ble_eq_true rfl) ?_
      rw [← hv] at hQ
      exact hQ _ _ f2_z ofr (fun _ => ⟨e57, htk2, hok⟩) (fun h_z => absurd rfl h_z)
  have gp := hgd p hpn
  by_cases hq : ((chP B n (unP B n (if lm = 5 then 8 else 6) 6) (opA B n)) p).1 = 0
  · obtain ⟨y1, y2, y3, y4⟩ := gp.1 hq
    have hz : ((chP B n (unP B n (if lm = 5 then 8 else 6) 6) (opA B n)) p) = (0, ((chP B n (unP B n (if lm = 5 then 8 else 6) 6) (opA B n)) p).2.1, ((chP B n (unP B n (if lm = 5 then 8 else 6) 6) (opA B n)) p).2.2) := Prod.ext hq rfl
    refine r_aloadR0 dX5_readTruth_0 ?_
    refine r_iload1 dX5_readTruth_1 ?_
    refine q_callV1 zm_RX5_164 dX5_readTruth_2 hr.1 (by decide) rfl (Nat.le_of_ble_eq_true rfl) (Nat.le_of_ble_eq_true rfl) (Nat.le_of_ble_eq_true rfl) (Nat.le_of_ble_eq_true rfl) (Nat.le_of_ble_eq_true rfl) (s_X5_readBoth_6 G hr kw ko htp htk hx hol hu hup (fun r2 v2 g2 o2 a2 b2 => ?_))
    have a2b : ((chP B n (unP B n (if lm = 5 then 8 else 6) 6) (opA B n)) p).1 = 0 → r2.toInt = 1 ∧ tkR ca B n g2 v2 A ((chP B n (unP B n (if lm = 5 then 8 else 6) 6) (opA B n)) p).2.1 ∧ okR f g2 A u ((chP B n (unP B n (if lm = 5 then 8 else 6) 6) (opA B n)) p).2.2 := a2
    have b2b : ((chP B n (unP B n (if lm = 5 then 8 else 6) 6) (opA B n)) p).1 ≠ 0 → r2.toInt = 0 ∧ flR g2 A ((chP B n (unP B n (if lm = 5 then 8 else 6) 6) (opA B n)) p).1 ((chP B n (unP B n (if lm = 5 then 8 else 6) 6) (opA B n)) p).2.1 := b2
    obtain ⟨c2_z, t2, k2_z⟩ := a2b hq
    refine t_ifne (t := 10) dX5_readTruth_5 (by decide) (fun h5 => ?_) (fun h5 => False.elim (by omega))
    refine n_iconst dX5_readTruth_10 (by decide) (fun r10 e10_z => ?_)
    refine r_istore2 dX5_readTruth_11 rfl ?_
    exact lp (n + 1) _ 0 n ((chP B n (unP B n (if lm = 5 then 8 else 6) 6) (opA B n)) p).2.1 ((chP B n (unP B n (if lm = 5 then 8 else 6) 6) (opA B n)) p).2.2 g2 _ (by omega) o2 t2 k2_z (by omega) y2 y3 (by omega) (by rw [← hz]; rfl) (Nat.lt_succ_self n)
  · have hv : chP B n (chP B n (unP B n (if lm = 5 then 8 else 6) 6) (opA B n)) (opO B n) p = ((chP B n (unP B n (if lm = 5 then 8 else 6) 6) (opA B n)) p) := lpP_bad hq
    rw [hv] at hQ
    refine r_aloadR0 dX5_readTruth_0 ?_
    refine r_iload1 dX5_readTruth_1 ?_
    refine q_callV1 zm_RX5_164 dX5_readTruth_2 hr.1 (by decide) rfl (Nat.le_of_ble_eq_true rfl) (Nat.le_of_ble_eq_true rfl) (Nat.le_of_ble_eq_true rfl) (Nat.le_of_ble_eq_true rfl) (Nat.le_of_ble_eq_true rfl) (s_X5_readBoth_6 G hr kw ko htp htk hx hol hu hup (fun r2 v2 g2 o2 a2 b2 => ?_))
    have a2b : ((chP B n (unP B n (if lm = 5 then 8 else 6) 6) (opA B n)) p).1 = 0 → r2.toInt = 1 ∧ tkR ca B n g2 v2 A ((chP B n (unP B n (if lm = 5 then 8 else 6) 6) (opA B n)) p).2.1 ∧ okR f g2 A u ((chP B n (unP B n (if lm = 5 then 8 else 6) 6) (opA B n)) p).2.2 := a2
    have b2b : ((chP B n (unP B n (if lm = 5 then 8 else 6) 6) (opA B n)) p).1 ≠ 0 → r2.toInt = 0 ∧ flR g2 A ((chP B n (unP B n (if lm = 5 then 8 else 6) 6) (opA B n)) p).1 ((chP B n (unP B n (if lm = 5 then 8 else 6) 6) (opA B n)) p).2.1 := b2
    obtain ⟨c2_z, l2⟩ := b2b hq
    refine t_ifne (t := 10) dX5_readTruth_5 (by decide) (fun h5 => False.elim (by omega)) (fun h5 => ?_)
    refine n_iconst dX5_readTruth_8 (by decide) (fun r8 e8 => ?_)
    refine m_zret dX5_readTruth_9 rfl (by omega) (Nat.le_of_ble_eq_true rfl) (Nat.le_of_ble_eq_true rfl) ?_
    exact hQ _ _ g2 o2 (fun h_z => absurd h_z hq) (fun _ => ⟨e8, l2⟩)
